theorem fl_X6_bestNow_109 : Cond.fieldLink RX6 109 "GongTideModel" "thought" "I" ∈ wsX6_bestNow := by decide +kernel
theorem hi_X6_bestNow_X6 : ∀ w ∈ wsX60, w ∈ wsX6_bestNow := fun w h => List.mem_cons_of_mem _ (List.mem_append_right _ h)
def rmX6_bestNow : Room := { frames := 6, cells := 0, slots := 0, locals := 139 }
set_option maxHeartbeats 4000000 in
set_option maxRecDepth 100000 in
theorem con_X6_bestNow (lau : Launch) (D : va_G) (cI cB : ClassId) (g : Nat) (co : Int) (nh : Nat) (qk : Nat) (qv : Nat) (ns : Nat) (qh : Nat) (ql : Nat) (ch : Int) (hd : Nat) (q9 : Nat) (q10 : Nat) (q11 : Nat) (q12 : Nat) (pl : Nat) (qp : Nat) (iw : Int) (nw : Int) (nz : Int) (sd : Int64) (qs : Nat) (ik : Int) (kc : Int) (ks : Nat) (kg : Int) (kh : Nat) (k26 : Nat) (k27 : Nat) (k28 : Nat) (k29 : Nat) (k30 : Nat) (k31 : Nat) (k32 : Nat) (hx : Int64) (K : Nat → Int) (V : Nat → Int) (SH : Nat → Int) (SL : Nat → Int) (l : Int) (w : Int) (hnh : nh ≤ 5) (hns : ns ≤ 6) (hS : ∀ x, x < ns → 0 ≤ SH x ∧ SH x ≤ 9 ∧ 0 ≤ SL x ∧ SL x ≤ 9) (hK : ∀ x, x < 5 → 0 ≤ K x ∧ K x ≤ 4) (hV : ∀ x, x < 5 → 0 ≤ V x ∧ V x ≤ 9) (hl : 1 ≤ l ∧ l ≤ 9) (hw : -2147483648 ≤ w ∧ w < 2147483648) : jMW (S := (Nat → Int) × (Nat → Int)) lau yX6_bestNow wsX6_bestNow rmX6_bestNow D cI cB [.ref g, .int (jI l), .int (jI w)] [oM g co ((nh : Nat) : Int) qk qv ((ns : Nat) : Int) qh ql ch ((hd : Nat) : Int) q9 q10 q11 q12 ((pl : Nat) : Int) qp iw nw nz ((0 : Nat) : Int) sd qs ik kc ((ks : Nat) : Int) kg ((kh : Nat) : Int) k26 k27 k28 k29 k30 k31 k32 hx, aI cI qk 5 K, aI cI qv 5 V, aI cI qh 7 SH, aI cI ql 7 SL] (fun u => some (.int (jI (if w = 0 then sp_bh K V (sp_sum SH SL (ns + 0)) nh l 10 else sp_bm K V (sp_sum SH SL (ns + 0)) nh l 10)))) (fun u => (∀ j, j < ns → u.1 j = SH j) ∧ (∀ j, j < ns → u.2 j = SL j)) (fun u => [oM g co ((nh : Nat) : Int) qk qv ((ns : Nat) : Int) qh ql ch ((hd : Nat) : Int) q9 q10 q11 q12 ((pl : Nat) : Int) qp iw nw nz ((0 : Nat) : Int) sd qs ik kc ((ks : Nat) : Int) kg ((kh : Nat) : Int) k26 k27 k28 k29 k30 k31 k32 hx, aI cI qk 5 K, aI cI qv 5 V, aI cI qh 7 u.1, aI cI ql 7 u.2]) := by
  refine jMW.of (own := RX6) (cc := cX6_bestNow) (maxL := 7) (ret := (some .int)) rfl (by decide) rfl (Nat.le_of_ble_eq_true rfl) ?_
  intro X C E
  refine jw_lv (lv' := [(0, .ref g), (1, .int (jI l)), (2, .int (jI w))]) [0, 1, 2] rfl ?_
  refine jw_iconst (pc := 0) C dX6_bestNow_0 ?_
  refine jw_istore_n (pc := 1) (lv' := [(3, .int (jI (-1))), (0, .ref g), (1, .int (jI l)), (2, .int (jI w))]) C dX6_bestNow_1 (by decide) rfl ?_
  refine jw_iconst (pc := 2) C dX6_bestNow_2 ?_
  refine jw_istore (pc := 3) (lv' := [(4, .int (jI (-1))), (3, .int (jI (-1))), (0, .ref g), (1, .int (jI l)), (2, .int (jI w))]) C dX6_bestNow_3 (by decide) rfl ?_
  refine jw_iconst (pc := 5) C dX6_bestNow_5 ?_
  refine jw_istore (pc := 6) (lv' := [(5, .int (jI 0)), (4, .int (jI (-1))), (3, .int (jI (-1))), (0, .ref g), (1, .int (jI l)), (2, .int (jI w))]) C dX6_bestNow_6 (by decide) rfl ?_
  have lp_8_1 : ∀ (fu : Nat) (aa : Nat) (bh : Int) (bm : Int) (tt : Nat) (c : Nat → Int) (d : Nat → Int), (aa ≤ 10) → (bm = sp_bm K V (sp_sum SH SL (ns + 0)) nh l aa) → (bh = sp_bh K V (sp_sum SH SL (ns + 0)) nh l aa) → (-1 ≤ bm ∧ bm ≤ 60) → (∀ j, j < ns → c j = SH j) → (∀ j, j < ns → d j = SL j) → 10 - aa < fu → jW X 8 [(0, .ref g), (1, .int (jI l)), (2, .int (jI w)), (3, .int (jI bh)), (4, .int (jI bm)), (5, .int (jI ((aa : Nat) : Int)))] [] [oM g co ((nh : Nat) : Int) qk qv ((ns : Nat) : Int) qh ql ch ((hd : Nat) : Int) q9 q10 q11 q12 ((pl : Nat) : Int) qp iw nw nz ((tt : Nat) : Int) sd qs ik kc ((ks : Nat) : Int) kg ((kh : Nat) : Int) k26 k27 k28 k29 k30 k31 k32 hx, aI cI qk 5 K, aI cI qv 5 V, aI cI qh 7 c, aI cI ql 7 d] := by
    intro fu
    induction fu with
    | zero => intro aa bh bm tt c d haa hbm hbh hbb hc hdl hm; exact absurd hm (Nat.not_lt_zero _)
    | succ fu ih_2 =>
      intro aa bh bm tt c d haa hbm hbh hbb hc hdl hm
      refine jw_iload (pc := 8) C dX6_bestNow_8 5 rfl ?_
      refine jw_bipush (pc := 10) C dX6_bestNow_10 (by decide +kernel) ?_
      refine jw_icmp_gt (pc := 12) (tgt := 71) C dX6_bestNow_12 (by decide) (by omega) (by omega) (fun c_12 => ?_) (fun c_12 => ?_)
      · -- 12 t
        rw [show aa = 10 by omega] at hbm hbh
        refine jw_aload_n (pc := 71) C dX6_bestNow_71 0 rfl ?_
        refine jw_iconst (pc := 72) C dX6_bestNow_72 ?_
        refine jw_put (pc := 73) (ty := .int) (ws' := [oM g co ((nh : Nat) : Int) qk qv ((ns : Nat) : Int) qh ql ch ((hd : Nat) : Int) q9 q10 q11 q12 ((pl : Nat) : Int) qp iw nw nz 0 sd qs ik kc ((ks : Nat) : Int) kg ((kh : Nat) : Int) k26 k27 k28 k29 k30 k31 k32 hx, aI cI qk 5 K, aI cI qv 5 V, aI cI qh 7 c, aI cI ql 7 d]) C hi_X6_bestNow_X6 tyX6 tyX6_ok nmX6 0 rfl rfl 18 (by decide) fl_X6_bestNow_109 rfl rfl (by decide +kernel) rfl rfl (Nat.le_of_ble_eq_true rfl) rfl dX6_bestNow_73 ?_
        refine jw_iload_n (pc := 76) C dX6_bestNow_76 2 rfl ?_
        refine jw_if_ne (pc := 77) (tgt := 84) C dX6_bestNow_77 (by decide) (by omega) (fun c_77 => ?_) (fun c_77 => ?_)
        · -- 77 t
          refine jw_iload (pc := 84) C dX6_bestNow_84 4 rfl ?_
          exact jw_iretW (pc := 86) C E dX6_bestNow_86 (((c), (d))) (congrArg (fun z => some (Value.int (jI z))) (by (repeat' split) <;> omega)) (by first | exact ⟨hc, hdl⟩ | exact hpost | exact ⟨fun _ _ => rfl, fun _ _ => rfl⟩) rfl
        · -- 77 f
          refine jw_iload_n (pc := 80) C dX6_bestNow_80 3 rfl ?_
          refine jw_goto (pc := 81) (tgt := 86) C dX6_bestNow_81 (by decide) ?_
          exact jw_iretW (pc := 86) C E dX6_bestNow_86 (((c), (d))) (congrArg (fun z => some (Value.int (jI z))) (by (repeat' split) <;> omega)) (by first | exact ⟨hc, hdl⟩ | exact hpost | exact ⟨fun _ _ => rfl, fun _ _ => rfl⟩) rfl
      · -- 12 f
        refine jw_aload_n (pc := 15) C dX6_bestNow_15 0 rfl ?_
        refine jw_iload (pc := 16) C dX6_bestNow_16 5 rfl ?_
        refine jw_iload_n (pc := 18) C dX6_bestNow_18 1 rfl ?_
        refine jw_callWV (pc := 19) C [.int (jI ((((aa : Nat) : Int)))), .int (jI l)] [] 2 (con_X6_think lau D cI cB g co nh qk qv ns qh ql ch hd q9 q10 q11 q12 pl qp iw nw nz tt sd qs ik kc ks kg kh k26 k27 k28 k29 k30 k31 k32 hx c d (((aa : Nat) : Int)) l (by omega)) gX6_bestNow_X6_think rfl rfl rfl (by decide +kernel) ⟨Nat.le_of_ble_eq_true rfl, Nat.le_of_ble_eq_true rfl⟩ 0 rfl rfl [0, 3, 4] [1, 2] [2, 0, 1, 3, 4] (wr := [aI cI qk 5 K, aI cI qv 5 V]) rfl rfl (by decide) (by decide) (fun _ => rfl) (wN := fun u_19_3 => [oM g co ((nh : Nat) : Int) qk qv ((ns : Nat) : Int) qh ql ch ((hd : Nat) : Int) q9 q10 q11 q12 ((pl : Nat) : Int) qp iw nw nz ((1 : Nat) : Int) sd qs ik kc ((ks : Nat) : Int) kg ((kh : Nat) : Int) k26 k27 k28 k29 k30 k31 k32 hx, aI cI qk 5 K, aI cI qv 5 V, aI cI qh 7 (va_up c ns (((aa : Nat) : Int))), aI cI ql 7 (va_up d ns l)]) (fun _ => rfl) (stN := fun u_19_3 => []) (fun _ => rfl) rfl (Nat.le_of_ble_eq_true rfl) rfl dX6_bestNow_19 (fun u_19_3 hu_19_3 => ?_)
        have eR : sp_sum (va_up c ns ((aa : Nat) : Int)) (va_up d ns l) (ns + 1) = sp_add (sp_sum SH SL (ns + 0)) ((aa : Nat) : Int) l := sp_sum_think hc hdl
        have h3 := sp_all3 K V (sp_add (sp_sum SH SL (ns + 0)) ((aa : Nat) : Int) l) nh
        have h0b := sp_all_b K V (sp_add (sp_sum SH SL (ns + 0)) ((aa : Nat) : Int) l) 0 nh
        have hq : 0 ≤ sp_q K V (sp_sum SH SL (ns + 0)) nh l aa ∧ sp_q K V (sp_sum SH SL (ns + 0)) nh l aa ≤ 60 := by unfold sp_q; omega
        refine jw_aload_n (pc := 22) C dX6_bestNow_22 0 rfl ?_
        refine jw_iconst (pc := 23) C dX6_bestNow_23 ?_
        refine jw_callRV (pc := 24) C [.int (jI 1)] [] 1 (con_X6_hoursAll lau D cI cB g co nh qk qv ns qh ql ch hd q9 q10 q11 q12 pl qp iw nw nz 1 sd qs ik kc ks kg kh k26 k27 k28 k29 k30 k31 k32 hx K V (va_up c ns (((aa : Nat) : Int))) (va_up d ns l) 1 (by omega) (by omega) (by omega) (sp_think_b hS hc hdl (by omega) (by omega)) hK hV (by omega)) gX6_bestNow_X6_hoursAll rfl rfl rfl (by decide +kernel) ⟨Nat.le_of_ble_eq_true rfl, Nat.le_of_ble_eq_true rfl⟩ 0 rfl rfl [0, 1, 2, 3, 4] rfl rfl (Nat.le_of_ble_eq_true rfl) rfl dX6_bestNow_24 ?_
        have b_24_0 := sp_all_b K V (sp_sum (va_up c ns (((aa : Nat) : Int))) (va_up d ns l) (ns + 1)) 1 nh
        refine jw_aload_n (pc := 27) C dX6_bestNow_27 0 rfl ?_
        refine jw_iconst (pc := 28) C dX6_bestNow_28 ?_
        refine jw_callRV (pc := 29) C [.int (jI 2)] [.int (jI ((sp_all K V (sp_sum (va_up c ns (((aa : Nat) : Int))) (va_up d ns l) (ns + 1)) 1 nh : Nat) : Int))] 1 (con_X6_hoursAll lau D cI cB g co nh qk qv ns qh ql ch hd q9 q10 q11 q12 pl qp iw nw nz 1 sd qs ik kc ks kg kh k26 k27 k28 k29 k30 k31 k32 hx K V (va_up c ns (((aa : Nat) : Int))) (va_up d ns l) 2 (by omega) (by omega) (by omega) (sp_think_b hS hc hdl (by omega) (by omega)) hK hV (by omega)) gX6_bestNow_X6_hoursAll rfl rfl rfl (by decide +kernel) ⟨Nat.le_of_ble_eq_true rfl, Nat.le_of_ble_eq_true rfl⟩ 0 rfl rfl [0, 1, 2, 3, 4] rfl rfl (Nat.le_of_ble_eq_true rfl) rfl dX6_bestNow_29 ?_
        have b_29_0 := sp_all_b K V (sp_sum (va_up c ns (((aa : Nat) : Int))) (va_up d ns l) (ns + 1)) 2 nh
        refine jw_iadd (pc := 32) (z := (sp_q K V (sp_sum SH SL (ns + 0)) nh l aa)) C dX6_bestNow_32 (by rw [eR]; unfold sp_q; omega) ?_
        refine jw_istore (pc := 33) (lv' := [(6, .int (jI (sp_q K V (sp_sum SH SL (ns + 0)) nh l aa))), (0, .ref g), (1, .int (jI l)), (2, .int (jI w)), (3, .int (jI bh)), (4, .int (jI bm)), (5, .int (jI ((aa : Nat) : Int)))]) C dX6_bestNow_33 (by decide) rfl ?_
        refine jw_iload (pc := 35) C dX6_bestNow_35 0 rfl ?_
        refine jw_iload (pc := 37) C dX6_bestNow_37 5 rfl ?_
        refine jw_icmp_le (pc := 39) (tgt := 47) C dX6_bestNow_39 (by decide) (by omega) (by omega) (fun c_39 => ?_) (fun c_39 => ?_)
        · -- 39 t
          refine jw_iload_n (pc := 47) C dX6_bestNow_47 4 rfl ?_
          refine jw_istore_n (pc := 48) (lv' := [(3, .int (jI bh)), (6, .int (jI (sp_q K V (sp_sum SH SL (ns + 0)) nh l aa))), (0, .ref g), (1, .int (jI l)), (2, .int (jI w)), (4, .int (jI bm)), (5, .int (jI ((aa : Nat) : Int)))]) C dX6_bestNow_48 (by decide) rfl ?_
          refine jw_iload (pc := 49) C dX6_bestNow_49 1 rfl ?_
          refine jw_iload (pc := 51) C dX6_bestNow_51 5 rfl ?_
          refine jw_icmp_le (pc := 53) (tgt := 61) C dX6_bestNow_53 (by decide) (by omega) (by omega) (fun c_53 => ?_) (fun c_53 => ?_)
          · -- 53 t
            refine jw_iload (pc := 61) C dX6_bestNow_61 5 rfl ?_
            refine jw_istore (pc := 63) (lv' := [(4, .int (jI bm)), (3, .int (jI bh)), (6, .int (jI (sp_q K V (sp_sum SH SL (ns + 0)) nh l aa))), (0, .ref g), (1, .int (jI l)), (2, .int (jI w)), (5, .int (jI ((aa : Nat) : Int)))]) C dX6_bestNow_63 (by decide) rfl ?_
            refine jw_iinc (pc := 65) (z := ((aa + 1 : Nat) : Int)) (lv' := [(5, .int (jI ((aa + 1 : Nat) : Int))), (4, .int (jI bm)), (3, .int (jI bh)), (6, .int (jI (sp_q K V (sp_sum SH SL (ns + 0)) nh l aa))), (0, .ref g), (1, .int (jI l)), (2, .int (jI w))]) C dX6_bestNow_65 6 rfl (by omega) (by decide) rfl ?_
            refine jw_goto (pc := 68) (tgt := 8) C dX6_bestNow_68 (by decide) ?_
            refine jw_lv [4, 5, 6, 2, 1, 0] rfl ?_
            exact ih_2 (aa + 1) bh bm 1 (va_up c ns (((aa : Nat) : Int))) (va_up d ns l) (by omega) (by show _ = (if sp_bm K V (sp_sum SH SL (ns + 0)) nh l aa < sp_q K V (sp_sum SH SL (ns + 0)) nh l aa then sp_q K V (sp_sum SH SL (ns + 0)) nh l aa else sp_bm K V (sp_sum SH SL (ns + 0)) nh l aa); rw [← hbm]; split <;> omega) (by show _ = (if sp_bm K V (sp_sum SH SL (ns + 0)) nh l aa < sp_q K V (sp_sum SH SL (ns + 0)) nh l aa then ((aa : Nat) : Int) else sp_bh K V (sp_sum SH SL (ns + 0)) nh l aa); rw [← hbm, ← hbh]; split <;> omega) (by omega) (sp_keep hc) (sp_keep hdl) (by omega)
          · -- 53 f
            refine jw_iload (pc := 56) C dX6_bestNow_56 1 rfl ?_
            refine jw_goto (pc := 58) (tgt := 63) C dX6_bestNow_58 (by decide) ?_
            refine jw_istore (pc := 63) (lv' := [(4, .int (jI (sp_q K V (sp_sum SH SL (ns + 0)) nh l aa))), (3, .int (jI bh)), (6, .int (jI (sp_q K V (sp_sum SH SL (ns + 0)) nh l aa))), (0, .ref g), (1, .int (jI l)), (2, .int (jI w)), (5, .int (jI ((aa : Nat) : Int)))]) C dX6_bestNow_63 (by decide) rfl ?_
            refine jw_iinc (pc := 65) (z := ((aa + 1 : Nat) : Int)) (lv' := [(5, .int (jI ((aa + 1 : Nat) : Int))), (4, .int (jI (sp_q K V (sp_sum SH SL (ns + 0)) nh l aa))), (3, .int (jI bh)), (6, .int (jI (sp_q K V (sp_sum SH SL (ns + 0)) nh l aa))), (0, .ref g), (1, .int (jI l)), (2, .int (jI w))]) C dX6_bestNow_65 6 rfl (by omega) (by decide) rfl ?_
            refine jw_goto (pc := 68) (tgt := 8) C dX6_bestNow_68 (by decide) ?_
            refine jw_lv [4, 5, 6, 2, 1, 0] rfl ?_
            exact ih_2 (aa + 1) bh ((sp_q K V (sp_sum SH SL (ns + 0)) nh l aa)) 1 (va_up c ns (((aa : Nat) : Int))) (va_up d ns l) (by omega) (by show _ = (if sp_bm K V (sp_sum SH SL (ns + 0)) nh l aa < sp_q K V (sp_sum SH SL (ns + 0)) nh l aa then sp_q K V (sp_sum SH SL (ns + 0)) nh l aa else sp_bm K V (sp_sum SH SL (ns + 0)) nh l aa); rw [← hbm]; split <;> omega) (by show _ = (if sp_bm K V (sp_sum SH SL (ns + 0)) nh l aa < sp_q K V (sp_sum SH SL (ns + 0)) nh l aa then ((aa : Nat) : Int) else sp_bh K V (sp_sum SH SL (ns + 0)) nh l aa); rw [← hbm, ← hbh]; split <;> omega) (by omega) (sp_keep hc) (sp_keep hdl) (by omega)
        · -- 39 f
          refine jw_iload (pc := 42) C dX6_bestNow_42 6 rfl ?_
          refine jw_goto (pc := 44) (tgt := 48) C dX6_bestNow_44 (by decide) ?_
          refine jw_istore_n (pc := 48) (lv' := [(3, .int (jI ((aa : Nat) : Int))), (6, .int (jI (sp_q K V (sp_sum SH SL (ns + 0)) nh l aa))), (0, .ref g), (1, .int (jI l)), (2, .int (jI w)), (4, .int (jI bm)), (5, .int (jI ((aa : Nat) : Int)))]) C dX6_bestNow_48 (by decide) rfl ?_
          refine jw_iload (pc := 49) C dX6_bestNow_49 1 rfl ?_
          refine jw_iload (pc := 51) C dX6_bestNow_51 5 rfl ?_
          refine jw_icmp_le (pc := 53) (tgt := 61) C dX6_bestNow_53 (by decide) (by omega) (by omega) (fun c_53 => ?_) (fun c_53 => ?_)
          · -- 53 t
            refine jw_iload (pc := 61) C dX6_bestNow_61 5 rfl ?_
            refine jw_istore (pc := 63) (lv' := [(4, .int (jI bm)), (3, .int (jI ((aa : Nat) : Int))), (6, .int (jI (sp_q K V (sp_sum SH SL (ns + 0)) nh l aa))), (0, .ref g), (1, .int (jI l)), (2, .int (jI w)), (5, .int (jI ((aa : Nat) : Int)))]) C dX6_bestNow_63 (by decide) rfl ?_
            refine jw_iinc (pc := 65) (z := ((aa + 1 : Nat) : Int)) (lv' := [(5, .int (jI ((aa + 1 : Nat) : Int))), (4, .int (jI bm)), (3, .int (jI ((aa : Nat) : Int))), (6, .int (jI (sp_q K V (sp_sum SH SL (ns + 0)) nh l aa))), (0, .ref g), (1, .int (jI l)), (2, .int (jI w))]) C dX6_bestNow_65 6 rfl (by omega) (by decide) rfl ?_
            refine jw_goto (pc := 68) (tgt := 8) C dX6_bestNow_68 (by decide) ?_
            refine jw_lv [4, 5, 6, 2, 1, 0] rfl ?_
            exact ih_2 (aa + 1) (((aa : Nat) : Int)) bm 1 (va_up c ns (((aa : Nat) : Int))) (va_up d ns l) (by omega) (by show _ = (if sp_bm K V (sp_sum SH SL (ns + 0)) nh l aa < sp_q K V (sp_sum SH SL (ns + 0)) nh l aa then sp_q K V (sp_sum SH SL (ns + 0)) nh l aa else sp_bm K V (sp_sum SH SL (ns + 0)) nh l aa); rw [← hbm]; split <;> omega) (by show _ = (if sp_bm K V (sp_sum SH SL (ns + 0)) nh l aa < sp_q K V (sp_sum SH SL (ns + 0)) nh l aa then ((aa : Nat) : Int) else sp_bh K V (sp_sum SH SL (ns + 0)) nh l aa); rw [← hbm, ← hbh]; split <;> omega) (by omega) (sp_keep hc) (sp_keep hdl) (by omega)
          · -- 53 f
            refine jw_iload (pc := 56) C dX6_bestNow_56 1 rfl ?_
            refine jw_goto (pc := 58) (tgt := 63) C dX6_bestNow_58 (by decide) ?_
            refine jw_istore (pc := 63) (lv' := [(4, .int (jI (sp_q K V (sp_sum SH SL (ns + 0)) nh l aa))), (3, .int (jI ((aa : Nat) : Int))), (6, .int (jI (sp_q K V (sp_sum SH SL (ns + 0)) nh l aa))), (0, .ref g), (1, .int (jI l)), (2, .int (jI w)), (5, .int (jI ((aa : Nat) : Int)))]) C dX6_bestNow_63 (by decide) rfl ?_
            refine jw_iinc (pc := 65) (z := ((aa + 1 : Nat) : Int)) (lv' := [(5, .int (jI ((aa + 1 : Nat) : Int))), (4, .int (jI (sp_q K V (sp_sum SH SL (ns + 0)) nh l aa))), (3, .int (jI ((aa : Nat) : Int))), (6, .int (jI (sp_q K V (sp_sum SH SL (ns + 0)) nh l aa))), (0, .ref g), (1, .int (jI l)), (2, .int (jI w))]) C dX6_bestNow_65 6 rfl (by omega) (by decide) rfl ?_
            refine jw_goto (pc := 68) (tgt := 8) C dX6_bestNow_68 (by decide) ?_
            refine jw_lv [4, 5, 6, 2, 1, 0] rfl ?_
            exact ih_2 (aa + 1) (((aa : Nat) : Int)) ((sp_q K V (sp_sum SH SL (ns + 0)) nh l aa)) 1 (va_up c ns (((aa : Nat) : Int))) (va_up d ns l) (by omega) (by show _ = (if sp_bm K V (sp_sum SH SL (ns + 0)) nh l aa < sp_q K V (sp_sum SH SL (ns + 0)) nh l aa then sp_q K V (sp_sum SH SL (ns + 0)) nh l aa else sp_bm K V (sp_sum SH SL (ns + 0)) nh l aa); rw [← hbm]; split <;> omega) (by show _ = (if sp_bm K V (sp_sum SH SL (ns + 0)) nh l aa < sp_q K V (sp_sum SH SL (ns + 0)) nh l aa then ((aa : Nat) : Int) else sp_bh K V (sp_sum SH SL (ns + 0)) nh l aa); rw [← hbm, ← hbh]; split <;> omega) (by omega) (sp_keep hc) (sp_keep hdl) (by omega)
  refine jw_lv [3, 4, 5, 2, 1, 0] rfl ?_
  exact lp_8_1 ((10 - 0) + 1) 0 ((-1)) ((-1)) 0 SH SL (by omega) rfl rfl (by omega) (by first | exact (fun _ _ => rfl) | exact hpost.1) (by first | exact (fun _ _ => rfl) | exact hpost.2) (Nat.lt_succ_self _)
theorem fl_X6_best_94 : Cond.fieldLink RX6 94 "GongTideModel" "houses" "I" ∈ wsX6_best := by decide +kernel
theorem hi_X6_best_X6 : ∀ w ∈ wsX60, w ∈ wsX6_best := fun w h => List.mem_cons_of_mem _ (List.mem_append_right _ h)
def rmX6_best : Room := { frames := 7, cells := 0, slots := 0, locals := 165 }
set_option maxHeartbeats 4000000 in
set_option maxRecDepth 100000 in
theorem con_X6_best (lau : Launch) (D : va_G) (cI cB : ClassId) (g : Nat) (co : Int) (nh : Nat) (qk : Nat) (qv : Nat) (ns : Nat) (qh : Nat) (ql : Nat) (ch : Int) (hd : Nat) (q9 : Nat) (q10 : Nat) (q11 : Nat) (q12 : Nat) (pl : Nat) (qp : Nat) (iw : Int) (nw : Int) (nz : Int) (sd : Int64) (qs : Nat) (ik : Int) (kc : Int) (ks : Nat) (kg : Int) (kh : Nat) (k26 : Nat) (k27 : Nat) (k28 : Nat) (k29 : Nat) (k30 : Nat) (k31 : Nat) (k32 : Nat) (hx : Int64) (K : Nat → Int) (V : Nat → Int) (SH : Nat → Int) (SL : Nat → Int) (l : Int) (w : Int) (hnh : nh ≤ 5) (hns : ns ≤ 6) (hS : ∀ x, x < ns → 0 ≤ SH x ∧ SH x ≤ 9 ∧ 0 ≤ SL x ∧ SL x ≤ 9) (hK : ∀ x, x < 5 → 0 ≤ K x ∧ K x ≤ 4) (hV : ∀ x, x < 5 → 0 ≤ V x ∧ V x ≤ 9) (hl : -2147483648 ≤ l ∧ l < 2147483648) (hw : -2147483648 ≤ w ∧ w < 2147483648) : jMW (S := (Nat → Int) × (Nat → Int)) lau yX6_best wsX6_best rmX6_best D cI cB [.ref g, .int (jI l), .int (jI w)] [oM g co ((nh : Nat) : Int) qk qv ((ns : Nat) : Int) qh ql ch ((hd : Nat) : Int) q9 q10 q11 q12 ((pl : Nat) : Int) qp iw nw nz ((0 : Nat) : Int) sd qs ik kc ((ks : Nat) : Int) kg ((kh : Nat) : Int) k26 k27 k28 k29 k30 k31 k32 hx, aI cI qk 5 K, aI cI qv 5 V, aI cI qh 7 SH, aI cI ql 7 SL] (fun u => some (.int (jI (sp_best nh K V (sp_sum SH SL (ns + 0)) l w)))) (fun u => (∀ j, j < ns → u.1 j = SH j) ∧ (∀ j, j < ns → u.2 j = SL j)) (fun u => [oM g co ((nh : Nat) : Int) qk qv ((ns : Nat) : Int) qh ql ch ((hd : Nat) : Int) q9 q10 q11 q12 ((pl : Nat) : Int) qp iw nw nz ((0 : Nat) : Int) sd qs ik kc ((ks : Nat) : Int) kg ((kh : Nat) : Int) k26 k27 k28 k29 k30 k31 k32 hx, aI cI qk 5 K, aI cI qv 5 V, aI cI qh 7 u.1, aI cI ql 7 u.2]) := by
  refine jMW.of (own := RX6) (cc := cX6_best) (maxL := 3) (ret := (some .int)) rfl (by decide) rfl (Nat.le_of_ble_eq_true rfl) ?_
  intro X C E
  refine jw_lv (lv' := [(0, .ref g), (1, .int (jI l)), (2, .int (jI w))]) [0, 1, 2] rfl ?_
  refine jw_iload_n (pc := 0) C dX6_best_0 1 rfl ?_
  refine jw_iconst (pc := 1) C dX6_best_1 ?_
  refine jw_bipush (pc := 2) C dX6_best_2 (by decide +kernel) ?_
  refine jw_callRS (pc := 4) C [.int (jI l), .int (jI 1), .int (jI 9)] [] 3 (con_X6_within lau D cI cB l 1 9 (by omega) (by omega) (by omega)) gX6_best_X6_within rfl rfl rfl (by decide +kernel) ⟨Nat.le_of_ble_eq_true rfl, Nat.le_of_ble_eq_true rfl⟩ [] rfl rfl (Nat.le_of_ble_eq_true rfl) rfl dX6_best_4 ?_
  refine jw_ifb_eq (pc := 7) (tgt := 19) C dX6_best_7 (by decide) (fun c_7 => ?_) (fun c_7 => ?_)
  · -- 7 t
    refine jw_bipush (pc := 19) C dX6_best_19 (by decide +kernel) ?_
    exact jw_iretW (pc := 21) C E dX6_best_21 (((SH), (SL))) (congrArg (fun z => some (Value.int (jI z))) (by unfold sp_best; (repeat' split) <;> first | rfl | omega)) (by first | exact ⟨hc, hdl⟩ | exact hpost | exact ⟨fun _ _ => rfl, fun _ _ => rfl⟩) rfl
  · -- 7 f
    refine jw_iload_n (pc := 10) C dX6_best_10 2 rfl ?_
    refine jw_iconst (pc := 11) C dX6_best_11 ?_
    refine jw_iconst (pc := 12) C dX6_best_12 ?_
    refine jw_callRS (pc := 13) C [.int (jI w), .int (jI 0), .int (jI 1)] [] 3 (con_X6_within lau D cI cB w 0 1 (by omega) (by omega) (by omega)) gX6_best_X6_within rfl rfl rfl (by decide +kernel) ⟨Nat.le_of_ble_eq_true rfl, Nat.le_of_ble_eq_true rfl⟩ [] rfl rfl (Nat.le_of_ble_eq_true rfl) rfl dX6_best_13 ?_
    refine jw_ifb_ne (pc := 16) (tgt := 22) C dX6_best_16 (by decide) (fun c_16 => ?_) (fun c_16 => ?_)
    · -- 16 t
      refine jw_aload_n (pc := 22) C dX6_best_22 0 rfl ?_
      refine jw_get (pc := 23) C hi_X6_best_X6 0 rfl rfl 1 (by decide) fl_X6_best_94 rfl rfl dX6_best_23 ?_
      refine jw_if_ne (pc := 26) (tgt := 34) C dX6_best_26 (by decide) (by omega) (fun c_26 => ?_) (fun c_26 => ?_)
      · -- 26 t
        refine jw_aload_n (pc := 34) C dX6_best_34 0 rfl ?_
        refine jw_iload_n (pc := 35) C dX6_best_35 1 rfl ?_
        refine jw_iload_n (pc := 36) C dX6_best_36 2 rfl ?_
        refine jw_callWV (pc := 37) C [.int (jI l), .int (jI w)] [] 2 (con_X6_bestNow lau D cI cB g co nh qk qv ns qh ql ch hd q9 q10 q11 q12 pl qp iw nw nz sd qs ik kc ks kg kh k26 k27 k28 k29 k30 k31 k32 hx K V SH SL l w (by omega) (by omega) hS hK hV (by omega) (by omega)) gX6_best_X6_bestNow rfl rfl rfl (by decide +kernel) ⟨Nat.le_of_ble_eq_true rfl, Nat.le_of_ble_eq_true rfl⟩ 0 rfl rfl [0, 1, 2, 3, 4] [] [0, 1, 2, 3, 4] (wr := []) rfl rfl (by decide) (by decide) (fun _ => rfl) (wN := fun u_37_1 => [oM g co ((nh : Nat) : Int) qk qv ((ns : Nat) : Int) qh ql ch ((hd : Nat) : Int) q9 q10 q11 q12 ((pl : Nat) : Int) qp iw nw nz ((0 : Nat) : Int) sd qs ik kc ((ks : Nat) : Int) kg ((kh : Nat) : Int) k26 k27 k28 k29 k30 k31 k32 hx, aI cI qk 5 K, aI cI qv 5 V, aI cI qh 7 u_37_1.1, aI cI ql 7 u_37_1.2]) (fun _ => rfl) (stN := fun u_37_1 => [.int (jI (if w = 0 then sp_bh K V (sp_sum SH SL (ns + 0)) nh l 10 else sp_bm K V (sp_sum SH SL (ns + 0)) nh l 10))]) (fun _ => rfl) rfl (Nat.le_of_ble_eq_true rfl) rfl dX6_best_37 (fun u_37_1 hu_37_1 => ?_)
        (try dsimp only at hu_37_1)
        have hpost := hu_37_1
        exact jw_iretW (pc := 40) C E dX6_best_40 (((u_37_1.1), (u_37_1.2))) (congrArg (fun z => some (Value.int (jI z))) (by unfold sp_best; (repeat' split) <;> first | rfl | omega)) (by first | exact ⟨hc, hdl⟩ | exact hpost | exact ⟨fun _ _ => rfl, fun _ _ => rfl⟩) rfl
      · -- 26 f
        refine jw_bipush (pc := 29) C dX6_best_29 (by decide +kernel) ?_
        refine jw_goto (pc := 31) (tgt := 40) C dX6_best_31 (by decide) ?_
        exact jw_iretW (pc := 40) C E dX6_best_40 (((SH), (SL))) (congrArg (fun z => some (Value.int (jI z))) (by unfold sp_best; (repeat' split) <;> first | rfl | omega)) (by first | exact ⟨hc, hdl⟩ | exact hpost | exact ⟨fun _ _ => rfl, fun _ _ => rfl⟩) rfl
    · -- 16 f
      refine jw_bipush (pc := 19) C dX6_best_19 (by decide +kernel) ?_
      exact jw_iretW (pc := 21) C E dX6_best_21 (((SH), (SL))) (congrArg (fun z => some (Value.int (jI z))) (by unfold sp_best; (repeat' split) <;> first | rfl | omega)) (by first | exact ⟨hc, hdl⟩ | exact hpost | exact ⟨fun _ _ => rfl, fun _ _ => rfl⟩) rfl
theorem fl_X6_isHeard_22 : Cond.fieldLink RX6 22 "GongTideModel" "heardHouse" "[I" ∈ wsX6_isHeard := by decide +kernel
theorem fl_X6_isHeard_25 : Cond.fieldLink RX6 25 "GongTideModel" "heardHour" "[I" ∈ wsX6_isHeard := by decide +kernel
theorem fl_X6_isHeard_28 : Cond.fieldLink RX6 28 "GongTideModel" "heardLoud" "[I" ∈ wsX6_isHeard := by decide +kernel
theorem fl_X6_isHeard_31 : Cond.fieldLink RX6 31 "GongTideModel" "heardHow" "[I" ∈ wsX6_isHeard := by decide +kernel
theorem fl_X6_isHeard_106 : Cond.fieldLink RX6 106 "GongTideModel" "heard" "I" ∈ wsX6_isHeard := by decide +kernel
theorem fl_X6_isHeard_109 : Cond.fieldLink RX6 109 "GongTideModel" "thought" "I" ∈ wsX6_isHeard := by decide +kernel
theorem hi_X6_isHeard_X6 : ∀ w ∈ wsX60, w ∈ wsX6_isHeard := fun w h => List.mem_cons_of_mem _ (List.mem_append_right _ h)
def rmX6_isHeard : Room := { frames := 4, cells := 0, slots := 0, locals := 92 }
set_option maxHeartbeats 4000000 in
set_option maxRecDepth 100000 in
theorem con_X6_isHeard (lau : Launch) (D : va_G) (cI cB : ClassId) (g : Nat) (co : Int) (nh : Nat) (qk : Nat) (qv : Nat) (ns : Nat) (qh : Nat) (ql : Nat) (ch : Int) (hd : Nat) (q9 : Nat) (q10 : Nat) (q11 : Nat) (q12 : Nat) (pl : Nat) (qp : Nat) (iw : Int) (nw : Int) (nz : Int) (sd : Int64) (qs : Nat) (ik : Int) (kc : Int) (ks : Nat) (kg : Int) (kh : Nat) (k26 : Nat) (k27 : Nat) (k28 : Nat) (k29 : Nat) (k30 : Nat) (k31 : Nat) (k32 : Nat) (hx : Int64) (K : Nat → Int) (V : Nat → Int) (SH : Nat → Int) (SL : Nat → Int) (HH : Nat → Int) (HO : Nat → Int) (HL : Nat → Int) (HW : Nat → Int) (y0 : Nat) (hnh : nh ≤ 5) (hns : ns ≤ 6) (hhd : hd ≤ 6) (hS : ∀ x, x < ns → 0 ≤ SH x ∧ SH x ≤ 9 ∧ 0 ≤ SL x ∧ SL x ≤ 9) (hK : ∀ x, x < 5 → 0 ≤ K x ∧ K x ≤ 4) (hV : ∀ x, x < 5 → 0 ≤ V x ∧ V x ≤ 9) (hH : ∀ x, x < hd → 0 ≤ HH x ∧ HH x < 5 ∧ 0 ≤ HO x ∧ HO x ≤ 11 ∧ 1 ≤ HL x ∧ HL x ≤ 9 ∧ 0 ≤ HW x ∧ HW x ≤ 2) (hy0 : y0 ≤ 9) : jMW (S := (Nat → Int) × (Nat → Int)) lau yX6_isHeard wsX6_isHeard rmX6_isHeard D cI cB [.ref g, .int (jI ((y0 : Nat) : Int))] [oM g co ((nh : Nat) : Int) qk qv ((ns : Nat) : Int) qh ql ch ((hd : Nat) : Int) q9 q10 q11 q12 ((pl : Nat) : Int) qp iw nw nz ((0 : Nat) : Int) sd qs ik kc ((ks : Nat) : Int) kg ((kh : Nat) : Int) k26 k27 k28 k29 k30 k31 k32 hx, aI cI qk 5 K, aI cI qv 5 V, aI cI qh 7 SH, aI cI ql 7 SL, aI cI q9 6 HH, aI cI q10 6 HO, aI cI q11 6 HL, aI cI q12 6 HW] (fun u => some (.int (jI (jb (sp_agr K V (sp_sum SH SL (ns + 0)) HH HO HL HW hd y0 = true))))) (fun u => (∀ j, j < ns → u.1 j = SH j) ∧ (∀ j, j < ns → u.2 j = SL j)) (fun u => [oM g co ((nh : Nat) : Int) qk qv ((ns : Nat) : Int) qh ql ch ((hd : Nat) : Int) q9 q10 q11 q12 ((pl : Nat) : Int) qp iw nw nz ((0 : Nat) : Int) sd qs ik kc ((ks : Nat) : Int) kg ((kh : Nat) : Int) k26 k27 k28 k29 k30 k31 k32 hx, aI cI qk 5 K, aI cI qv 5 V, aI cI qh 7 u.1, aI cI ql 7 u.2, aI cI q9 6 HH, aI cI q10 6 HO, aI cI q11 6 HL, aI cI q12 6 HW]) := by
  refine jMW.of (own := RX6) (cc := cX6_isHeard) (maxL := 4) (ret := (some .boolean)) rfl (by decide) rfl (Nat.le_of_ble_eq_true rfl) ?_
  intro X C E
  refine jw_lv (lv' := [(0, .ref g), (1, .int (jI ((y0 : Nat) : Int)))]) [0, 1] rfl ?_
  refine jw_iconst (pc := 0) C dX6_isHeard_0 ?_
  refine jw_istore_n (pc := 1) (lv' := [(2, .int (jI 1)), (0, .ref g), (1, .int (jI ((y0 : Nat) : Int)))]) C dX6_isHeard_1 (by decide) rfl ?_
  refine jw_iconst (pc := 2) C dX6_isHeard_2 ?_
  refine jw_istore_n (pc := 3) (lv' := [(3, .int (jI 0)), (2, .int (jI 1)), (0, .ref g), (1, .int (jI ((y0 : Nat) : Int)))]) C dX6_isHeard_3 (by decide) rfl ?_
  have lp_4_1 : ∀ (fu : Nat) (i : Nat) (d0 : Int) (tt : Nat) (c : Nat → Int) (d : Nat → Int), (i ≤ hd) → (d0 = 0 ∨ d0 = 1) → (d0 = 1 → ∀ y, y < i → sp_hw (K (HH y).toNat) (V (HH y).toNat) (sp_add (sp_sum SH SL (ns + 0)) ((y0 : Nat) : Int) (HL y)) (HO y).toNat = HW y) → (d0 = 0 → ¬ sp_agr K V (sp_sum SH SL (ns + 0)) HH HO HL HW hd y0 = true) → (∀ j, j < ns → c j = SH j) → (∀ j, j < ns → d j = SL j) → hd - i < fu → jW X 4 [(0, .ref g), (1, .int (jI ((y0 : Nat) : Int))), (2, .int (jI d0)), (3, .int (jI ((i : Nat) : Int)))] [] [oM g co ((nh : Nat) : Int) qk qv ((ns : Nat) : Int) qh ql ch ((hd : Nat) : Int) q9 q10 q11 q12 ((pl : Nat) : Int) qp iw nw nz ((tt : Nat) : Int) sd qs ik kc ((ks : Nat) : Int) kg ((kh : Nat) : Int) k26 k27 k28 k29 k30 k31 k32 hx, aI cI qk 5 K, aI cI qv 5 V, aI cI qh 7 c, aI cI ql 7 d, aI cI q9 6 HH, aI cI q10 6 HO, aI cI q11 6 HL, aI cI q12 6 HW] := by
    intro fu
    induction fu with
    | zero => intro i d0 tt c d hi hdd h1 h0 hc hdl hm; exact absurd hm (Nat.not_lt_zero _)
    | succ fu ih_2 =>
      intro i d0 tt c d hi hdd h1 h0 hc hdl hm
      refine jw_iload_n (pc := 4) C dX6_isHeard_4 3 rfl ?_
      refine jw_aload_n (pc := 5) C dX6_isHeard_5 0 rfl ?_
      refine jw_get (pc := 6) C hi_X6_isHeard_X6 0 rfl rfl 8 (by decide) fl_X6_isHeard_106 rfl rfl dX6_isHeard_6 ?_
      refine jw_icmp_ge (pc := 9) (tgt := 64) C dX6_isHeard_9 (by decide) (by omega) (by omega) (fun c_9 => ?_) (fun c_9 => ?_)
      · -- 9 t
        refine jw_aload_n (pc := 64) C dX6_isHeard_64 0 rfl ?_
        refine jw_iconst (pc := 65) C dX6_isHeard_65 ?_
        refine jw_put (pc := 66) (ty := .int) (ws' := [oM g co ((nh : Nat) : Int) qk qv ((ns : Nat) : Int) qh ql ch ((hd : Nat) : Int) q9 q10 q11 q12 ((pl : Nat) : Int) qp iw nw nz 0 sd qs ik kc ((ks : Nat) : Int) kg ((kh : Nat) : Int) k26 k27 k28 k29 k30 k31 k32 hx, aI cI qk 5 K, aI cI qv 5 V, aI cI qh 7 c, aI cI ql 7 d, aI cI q9 6 HH, aI cI q10 6 HO, aI cI q11 6 HL, aI cI q12 6 HW]) C hi_X6_isHeard_X6 tyX6 tyX6_ok nmX6 0 rfl rfl 18 (by decide) fl_X6_isHeard_109 rfl rfl (by decide +kernel) rfl rfl (Nat.le_of_ble_eq_true rfl) rfl dX6_isHeard_66 ?_
        refine jw_iload_n (pc := 69) C dX6_isHeard_69 2 rfl ?_
        refine jw_top (y := jI (jb (sp_agr K V (sp_sum SH SL (ns + 0)) HH HO HL HW hd y0 = true))) (congrArg jI (hdd.elim (fun q => by rw [q]; exact jb_i0 (h0 q)) (fun q => by rw [q]; exact jb_i1 (sp_agr_iff.mpr (fun y hy => h1 q y (by omega)))))) ?_
        exact jw_zretW (pc := 70) C E dX6_isHeard_70 (((c), (d))) rfl (by first | exact ⟨hc, hdl⟩ | exact hpost | exact ⟨fun _ _ => rfl, fun _ _ => rfl⟩) rfl (jb_n _)
      · -- 9 f
        have hH_i := hH i (by omega)
        refine jw_aload_n (pc := 12) C dX6_isHeard_12 0 rfl ?_
        refine jw_iload_n (pc := 13) C dX6_isHeard_13 1 rfl ?_
        refine jw_aload_n (pc := 14) C dX6_isHeard_14 0 rfl ?_
        refine jw_get (pc := 15) C hi_X6_isHeard_X6 0 rfl rfl 11 (by decide) fl_X6_isHeard_28 rfl rfl dX6_isHeard_15 ?_
        refine jw_iload_n (pc := 18) C dX6_isHeard_18 3 rfl ?_
        refine jw_iald (pc := 19) C (f := HL) 7 i rfl rfl (by omega) (by decide) dX6_isHeard_19 ?_
        refine jw_callWV (pc := 20) C [.int (jI ((((y0 : Nat) : Int)))), .int (jI (((HL i))))] [] 2 (con_X6_think lau D cI cB g co nh qk qv ns qh ql ch hd q9 q10 q11 q12 pl qp iw nw nz tt sd qs ik kc ks kg kh k26 k27 k28 k29 k30 k31 k32 hx c d (((y0 : Nat) : Int)) ((HL i)) (by omega)) gX6_isHeard_X6_think rfl rfl rfl (by decide +kernel) ⟨Nat.le_of_ble_eq_true rfl, Nat.le_of_ble_eq_true rfl⟩ 0 rfl rfl [0, 3, 4] [1, 2, 5, 6, 7, 8] [6, 0, 1, 7, 8, 2, 3, 4, 5] (wr := [aI cI qk 5 K, aI cI qv 5 V, aI cI q9 6 HH, aI cI q10 6 HO, aI cI q11 6 HL, aI cI q12 6 HW]) rfl rfl (by decide) (by decide) (fun _ => rfl) (wN := fun u_20_3 => [oM g co ((nh : Nat) : Int) qk qv ((ns : Nat) : Int) qh ql ch ((hd : Nat) : Int) q9 q10 q11 q12 ((pl : Nat) : Int) qp iw nw nz ((1 : Nat) : Int) sd qs ik kc ((ks : Nat) : Int) kg ((kh : Nat) : Int) k26 k27 k28 k29 k30 k31 k32 hx, aI cI qk 5 K, aI cI qv 5 V, aI cI qh 7 (va_up c ns (((y0 : Nat) : Int))), aI cI ql 7 (va_up d ns ((HL i))), aI cI q9 6 HH, aI cI q10 6 HO, aI cI q11 6 HL, aI cI q12 6 HW]) (fun _ => rfl) (stN := fun u_20_3 => []) (fun _ => rfl) rfl (Nat.le_of_ble_eq_true rfl) rfl dX6_isHeard_20 (fun u_20_3 hu_20_3 => ?_)
        have eR : sp_sum (va_up c ns ((y0 : Nat) : Int)) (va_up d ns (HL i)) (ns + 1) = sp_add (sp_sum SH SL (ns + 0)) ((y0 : Nat) : Int) (HL i) := sp_sum_think hc hdl
        refine jw_iload_n (pc := 23) C dX6_isHeard_23 2 rfl ?_
        refine jw_if_eq (pc := 24) (tgt := 56) C dX6_isHeard_24 (by decide) (by omega) (fun c_24 => ?_) (fun c_24 => ?_)
        · -- 24 t
          refine jw_iconst (pc := 56) C dX6_isHeard_56 ?_
          refine jw_istore_n (pc := 57) (lv' := [(2, .int (jI 0)), (0, .ref g), (1, .int (jI ((y0 : Nat) : Int))), (3, .int (jI ((i : Nat) : Int)))]) C dX6_isHeard_57 (by decide) rfl ?_
          refine jw_iinc (pc := 58) (z := ((i + 1 : Nat) : Int)) (lv' := [(3, .int (jI ((i + 1 : Nat) : Int))), (2, .int (jI 0)), (0, .ref g), (1, .int (jI ((y0 : Nat) : Int)))]) C dX6_isHeard_58 3 rfl (by omega) (by decide) rfl ?_
          refine jw_goto (pc := 61) (tgt := 4) C dX6_isHeard_61 (by decide) ?_
          refine jw_lv [2, 3, 1, 0] rfl ?_
          exact ih_2 (i + 1) 0 1 (va_up c ns (((y0 : Nat) : Int))) (va_up d ns ((HL i))) (by omega) (by omega) (by first | exact (fun q => absurd q (by decide)) | exact (fun _ y hy => by
                by_cases ey : y = i
                · subst ey; exact c_49
                · exact h1 (by omega) y (by omega))) (by first | exact (fun q => absurd q (by decide)) | exact (fun _ => h0 c_24) | exact (fun _ q => c_49 (sp_agr_iff.mp q i (by omega)))) (sp_keep hc) (sp_keep hdl) (by omega)
        · -- 24 f
          refine jw_aload_n (pc := 27) C dX6_isHeard_27 0 rfl ?_
          refine jw_aload_n (pc := 28) C dX6_isHeard_28 0 rfl ?_
          refine jw_get (pc := 29) C hi_X6_isHeard_X6 0 rfl rfl 9 (by decide) fl_X6_isHeard_22 rfl rfl dX6_isHeard_29 ?_
          refine jw_iload_n (pc := 32) C dX6_isHeard_32 3 rfl ?_
          refine jw_iald (pc := 33) C (f := HH) 5 i rfl rfl (by omega) (by decide) dX6_isHeard_33 ?_
          refine jw_top (y := jI (((HH i).toNat : Nat) : Int)) (congrArg jI (by omega)) ?_
          refine jw_aload_n (pc := 34) C dX6_isHeard_34 0 rfl ?_
          refine jw_get (pc := 35) C hi_X6_isHeard_X6 0 rfl rfl 10 (by decide) fl_X6_isHeard_25 rfl rfl dX6_isHeard_35 ?_
          refine jw_iload_n (pc := 38) C dX6_isHeard_38 3 rfl ?_
          refine jw_iald (pc := 39) C (f := HO) 6 i rfl rfl (by omega) (by decide) dX6_isHeard_39 ?_
          refine jw_top (y := jI (((HO i).toNat : Nat) : Int)) (congrArg jI (by omega)) ?_
          refine jw_callRV (pc := 40) C [.int (jI ((((HH i).toNat) : Nat) : Int)), .int (jI ((((HO i).toNat) : Nat) : Int))] [] 2 (con_X6_howAt lau D cI cB g co nh qk qv ns qh ql ch hd q9 q10 q11 q12 pl qp iw nw nz 1 sd qs ik kc ks kg kh k26 k27 k28 k29 k30 k31 k32 hx K V (va_up c ns (((y0 : Nat) : Int))) (va_up d ns ((HL i))) ((HH i).toNat) ((HO i).toNat) (by omega) (by omega) (sp_think_b hS hc hdl (by omega) (by omega)) hK hV (by omega) (by omega)) gX6_isHeard_X6_howAt rfl rfl rfl (by decide +kernel) ⟨Nat.le_of_ble_eq_true rfl, Nat.le_of_ble_eq_true rfl⟩ 0 rfl rfl [0, 1, 2, 3, 4] rfl rfl (Nat.le_of_ble_eq_true rfl) rfl dX6_isHeard_40 ?_
          have b_40_0 := sp_hw_b (K ((HH i).toNat)) (V ((HH i).toNat)) (sp_sum (va_up c ns (((y0 : Nat) : Int))) (va_up d ns ((HL i))) (ns + 1)) ((HO i).toNat)
          refine jw_top (y := jI (sp_hw (K (HH i).toNat) (V (HH i).toNat) (sp_add (sp_sum SH SL (ns + 0)) ((y0 : Nat) : Int) (HL i)) (HO i).toNat)) (congrArg jI (by rw [eR])) ?_
          rw [eR] at b_40_0
          refine jw_aload_n (pc := 43) C dX6_isHeard_43 0 rfl ?_
          refine jw_get (pc := 44) C hi_X6_isHeard_X6 0 rfl rfl 12 (by decide) fl_X6_isHeard_31 rfl rfl dX6_isHeard_44 ?_
          refine jw_iload_n (pc := 47) C dX6_isHeard_47 3 rfl ?_
          refine jw_iald (pc := 48) C (f := HW) 8 i rfl rfl (by omega) (by decide) dX6_isHeard_48 ?_
          refine jw_icmp_ne (pc := 49) (tgt := 56) C dX6_isHeard_49 (by decide) (by omega) (by omega) (fun c_49 => ?_) (fun c_49 => ?_)
          · -- 49 t
            refine jw_iconst (pc := 56) C dX6_isHeard_56 ?_
            refine jw_istore_n (pc := 57) (lv' := [(2, .int (jI 0)), (0, .ref g), (1, .int (jI ((y0 : Nat) : Int))), (3, .int (jI ((i : Nat) : Int)))]) C dX6_isHeard_57 (by decide) rfl ?_
            refine jw_iinc (pc := 58) (z := ((i + 1 : Nat) : Int)) (lv' := [(3, .int (jI ((i + 1 : Nat) : Int))), (2, .int (jI 0)), (0, .ref g), (1, .int (jI ((y0 : Nat) : Int)))]) C dX6_isHeard_58 3 rfl (by omega) (by decide) rfl ?_
            refine jw_goto (pc := 61) (tgt := 4) C dX6_isHeard_61 (by decide) ?_
            refine jw_lv [2, 3, 1, 0] rfl ?_
            exact ih_2 (i + 1) 0 1 (va_up c ns (((y0 : Nat) : Int))) (va_up d ns ((HL i))) (by omega) (by omega) (by first | exact (fun q => absurd q (by decide)) | exact (fun _ y hy => by
                  by_cases ey : y = i
                  · subst ey; exact c_49
                  · exact h1 (by omega) y (by omega))) (by first | exact (fun q => absurd q (by decide)) | exact (fun _ => h0 c_24) | exact (fun _ q => c_49 (sp_agr_iff.mp q i (by omega)))) (sp_keep hc) (sp_keep hdl) (by omega)
          · -- 49 f
            refine jw_iconst (pc := 52) C dX6_isHeard_52 ?_
            refine jw_goto (pc := 53) (tgt := 57) C dX6_isHeard_53 (by decide) ?_
            refine jw_istore_n (pc := 57) (lv' := [(2, .int (jI 1)), (0, .ref g), (1, .int (jI ((y0 : Nat) : Int))), (3, .int (jI ((i : Nat) : Int)))]) C dX6_isHeard_57 (by decide) rfl ?_
            refine jw_iinc (pc := 58) (z := ((i + 1 : Nat) : Int)) (lv' := [(3, .int (jI ((i + 1 : Nat) : Int))), (2, .int (jI 1)), (0, .ref g), (1, .int (jI ((y0 : Nat) : Int)))]) C dX6_isHeard_58 3 rfl (by omega) (by decide) rfl ?_
            refine jw_goto (pc := 61) (tgt := 4) C dX6_isHeard_61 (by decide) ?_
            refine jw_lv [2, 3, 1, 0] rfl ?_
            exact ih_2 (i + 1) 1 1 (va_up c ns (((y0 : Nat) : Int))) (va_up d ns ((HL i))) (by omega) (by omega) (by first | exact (fun q => absurd q (by decide)) | exact (fun _ y hy => by
                  by_cases ey : y = i
                  · subst ey; exact c_49
                  · exact h1 (by omega) y (by omega))) (by first | exact (fun q => absurd q (by decide)) | exact (fun _ => h0 c_24) | exact (fun _ q => c_49 (sp_agr_iff.mp q i (by omega)))) (sp_keep hc) (sp_keep hdl) (by omega)
  refine jw_lv [2, 3, 1, 0] rfl ?_
  exact lp_4_1 ((hd - 0) + 1) 0 1 0 SH SL (by omega) (by omega) (fun _ y hy => absurd hy (Nat.not_lt_zero _)) (fun q => absurd q (by decide)) (by first | exact (fun _ _ => rfl) | exact hpost.1) (by first | exact (fun _ _ => rfl) | exact hpost.2) (Nat.lt_succ_self _)
def rmX6_hoursNow : Room := { frames := 5, cells := 0, slots := 0, locals := 115 }
set_option maxHeartbeats 4000000 in
set_option maxRecDepth 100000 in
theorem con_X6_hoursNow (lau : Launch) (D : va_G) (cI cB : ClassId) (g : Nat) (co : Int) (nh : Nat) (qk : Nat) (qv : Nat) (ns : Nat) (qh : Nat) (ql : Nat) (ch : Int) (hd : Nat) (q9 : Nat) (q10 : Nat) (q11 : Nat) (q12 : Nat) (pl : Nat) (qp : Nat) (iw : Int) (nw : Int) (nz : Int) (sd : Int64) (qs : Nat) (ik : Int) (kc : Int) (ks : Nat) (kg : Int) (kh : Nat) (k26 : Nat) (k27 : Nat) (k28 : Nat) (k29 : Nat) (k30 : Nat) (k31 : Nat) (k32 : Nat) (hx : Int64) (K : Nat → Int) (V : Nat → Int) (SH : Nat → Int) (SL : Nat → Int) (HH : Nat → Int) (HO : Nat → Int) (HL : Nat → Int) (HW : Nat → Int) (hnh : nh ≤ 5) (hns : ns ≤ 6) (hhd : hd ≤ 6) (hS : ∀ x, x < ns → 0 ≤ SH x ∧ SH x ≤ 9 ∧ 0 ≤ SL x ∧ SL x ≤ 9) (hK : ∀ x, x < 5 → 0 ≤ K x ∧ K x ≤ 4) (hV : ∀ x, x < 5 → 0 ≤ V x ∧ V x ≤ 9) (hH : ∀ x, x < hd → 0 ≤ HH x ∧ HH x < 5 ∧ 0 ≤ HO x ∧ HO x ≤ 11 ∧ 1 ≤ HL x ∧ HL x ≤ 9 ∧ 0 ≤ HW x ∧ HW x ≤ 2) : jMW (S := (Nat → Int) × (Nat → Int)) lau yX6_hoursNow wsX6_hoursNow rmX6_hoursNow D cI cB [.ref g] [oM g co ((nh : Nat) : Int) qk qv ((ns : Nat) : Int) qh ql ch ((hd : Nat) : Int) q9 q10 q11 q12 ((pl : Nat) : Int) qp iw nw nz ((0 : Nat) : Int) sd qs ik kc ((ks : Nat) : Int) kg ((kh : Nat) : Int) k26 k27 k28 k29 k30 k31 k32 hx, aI cI qk 5 K, aI cI qv 5 V, aI cI qh 7 SH, aI cI ql 7 SL, aI cI q9 6 HH, aI cI q10 6 HO, aI cI q11 6 HL, aI cI q12 6 HW] (fun u => some (.int (jI ((sp_hrs K V (sp_sum SH SL (ns + 0)) HH HO HL HW hd : Nat) : Int)))) (fun u => (∀ j, j < ns → u.1 j = SH j) ∧ (∀ j, j < ns → u.2 j = SL j)) (fun u => [oM g co ((nh : Nat) : Int) qk qv ((ns : Nat) : Int) qh ql ch ((hd : Nat) : Int) q9 q10 q11 q12 ((pl : Nat) : Int) qp iw nw nz ((0 : Nat) : Int) sd qs ik kc ((ks : Nat) : Int) kg ((kh : Nat) : Int) k26 k27 k28 k29 k30 k31 k32 hx, aI cI qk 5 K, aI cI qv 5 V, aI cI qh 7 u.1, aI cI ql 7 u.2, aI cI q9 6 HH, aI cI q10 6 HO, aI cI q11 6 HL, aI cI q12 6 HW]) := by
  refine jMW.of (own := RX6) (cc := cX6_hoursNow) (maxL := 3) (ret := (some .int)) rfl (by decide) rfl (Nat.le_of_ble_eq_true rfl) ?_
  intro X C E
  refine jw_lv (lv' := [(0, .ref g)]) [0] rfl ?_
  refine jw_iconst (pc := 0) C dX6_hoursNow_0 ?_
  refine jw_istore_n (pc := 1) (lv' := [(1, .int (jI 0)), (0, .ref g)]) C dX6_hoursNow_1 (by decide) rfl ?_
  refine jw_iconst (pc := 2) C dX6_hoursNow_2 ?_
  refine jw_istore_n (pc := 3) (lv' := [(2, .int (jI 0)), (1, .int (jI 0)), (0, .ref g)]) C dX6_hoursNow_3 (by decide) rfl ?_
  have lp_4_1 : ∀ (fu : Nat) (aa : Nat) (B : Nat) (c : Nat → Int) (d : Nat → Int), (aa ≤ 10) → (B = sp_bits (sp_agr K V (sp_sum SH SL (ns + 0)) HH HO HL HW hd ) aa) → (B < 2 ^ aa) → (∀ j, j < ns → c j = SH j) → (∀ j, j < ns → d j = SL j) → 10 - aa < fu → jW X 4 [(0, .ref g), (1, .int (jI ((B : Nat) : Int))), (2, .int (jI ((aa : Nat) : Int)))] [] [oM g co ((nh : Nat) : Int) qk qv ((ns : Nat) : Int) qh ql ch ((hd : Nat) : Int) q9 q10 q11 q12 ((pl : Nat) : Int) qp iw nw nz ((0 : Nat) : Int) sd qs ik kc ((ks : Nat) : Int) kg ((kh : Nat) : Int) k26 k27 k28 k29 k30 k31 k32 hx, aI cI qk 5 K, aI cI qv 5 V, aI cI qh 7 c, aI cI ql 7 d, aI cI q9 6 HH, aI cI q10 6 HO, aI cI q11 6 HL, aI cI q12 6 HW] := by
    intro fu
    induction fu with
    | zero => intro aa B c d haa hB0 hB hc hdl hm; exact absurd hm (Nat.not_lt_zero _)
    | succ fu ih_2 =>
      intro aa B c d haa hB0 hB hc hdl hm
      refine jw_iload_n (pc := 4) C dX6_hoursNow_4 2 rfl ?_
      refine jw_bipush (pc := 5) C dX6_hoursNow_5 (by decide +kernel) ?_
      refine jw_icmp_gt (pc := 7) (tgt := 34) C dX6_hoursNow_7 (by decide) (by omega) (by omega) (fun c_7 => ?_) (fun c_7 => ?_)
      · -- 7 t
        refine jw_iload_n (pc := 34) C dX6_hoursNow_34 1 rfl ?_
        exact jw_iretW (pc := 35) C E dX6_hoursNow_35 (((c), (d))) (by rw [hB0, show aa = 10 by omega]; rfl) (by first | exact ⟨hc, hdl⟩ | exact hpost | exact ⟨fun _ _ => rfl, fun _ _ => rfl⟩) rfl
      · -- 7 f
        have eR : sp_sum c d (ns + 0) = (sp_sum SH SL (ns + 0)) := sp_sum_congr hc hdl
        refine jw_iload_n (pc := 10) C dX6_hoursNow_10 1 rfl ?_
        refine jw_aload_n (pc := 11) C dX6_hoursNow_11 0 rfl ?_
        refine jw_iload_n (pc := 12) C dX6_hoursNow_12 2 rfl ?_
        refine jw_callWV (pc := 13) C [.int (jI ((aa : Nat) : Int))] [.int (jI ((B : Nat) : Int))] 1 (con_X6_isHeard lau D cI cB g co nh qk qv ns qh ql ch hd q9 q10 q11 q12 pl qp iw nw nz sd qs ik kc ks kg kh k26 k27 k28 k29 k30 k31 k32 hx K V c d HH HO HL HW aa (by omega) (by omega) (by omega) (sp_bcd hS hc hdl) hK hV hH (by omega)) gX6_hoursNow_X6_isHeard rfl rfl rfl (by decide +kernel) ⟨Nat.le_of_ble_eq_true rfl, Nat.le_of_ble_eq_true rfl⟩ 0 rfl rfl [0, 1, 2, 3, 4, 5, 6, 7, 8] [] [0, 1, 2, 3, 4, 5, 6, 7, 8] (wr := []) rfl rfl (by decide) (by decide) (fun _ => rfl) (wN := fun u_13_3 => [oM g co ((nh : Nat) : Int) qk qv ((ns : Nat) : Int) qh ql ch ((hd : Nat) : Int) q9 q10 q11 q12 ((pl : Nat) : Int) qp iw nw nz ((0 : Nat) : Int) sd qs ik kc ((ks : Nat) : Int) kg ((kh : Nat) : Int) k26 k27 k28 k29 k30 k31 k32 hx, aI cI qk 5 K, aI cI qv 5 V, aI cI qh 7 u_13_3.1, aI cI ql 7 u_13_3.2, aI cI q9 6 HH, aI cI q10 6 HO, aI cI q11 6 HL, aI cI q12 6 HW]) (fun _ => rfl) (stN := fun u_13_3 => [.int (jI (jb (sp_agr K V (sp_sum c d (ns + 0)) HH HO HL HW hd aa = true))), .int (jI ((B : Nat) : Int))]) (fun _ => rfl) rfl (Nat.le_of_ble_eq_true rfl) rfl dX6_hoursNow_13 (fun u_13_3 hu_13_3 => ?_)
        (try dsimp only at hu_13_3)
        have hpost := hu_13_3
        refine jw_top (y := jI (jb (sp_agr K V (sp_sum SH SL (ns + 0)) HH HO HL HW hd aa = true))) (congrArg jI (by rw [eR])) ?_
        refine jw_ifb_eq (pc := 16) (tgt := 25) C dX6_hoursNow_16 (by decide) (fun c_16 => ?_) (fun c_16 => ?_)
        · -- 16 t
          refine jw_iconst (pc := 25) C dX6_hoursNow_25 ?_
          refine jw_ior (pc := 26) C (jI ((B : Nat) : Int)) dX6_hoursNow_26 (jI_or0 _) ?_
          refine jw_istore_n (pc := 27) (lv' := [(1, .int (jI ((B : Nat) : Int))), (0, .ref g), (2, .int (jI ((aa : Nat) : Int)))]) C dX6_hoursNow_27 (by decide) rfl ?_
          refine jw_iinc (pc := 28) (z := ((aa + 1 : Nat) : Int)) (lv' := [(2, .int (jI ((aa + 1 : Nat) : Int))), (1, .int (jI ((B : Nat) : Int))), (0, .ref g)]) C dX6_hoursNow_28 2 rfl (by omega) (by decide) rfl ?_
          refine jw_goto (pc := 31) (tgt := 4) C dX6_hoursNow_31 (by decide) ?_
          refine jw_lv [2, 1, 0] rfl ?_
          exact ih_2 (aa + 1) B u_13_3.1 u_13_3.2 (by omega) (by first | (rw [hB0, sp_bits_t c_16]; done) | (rw [hB0, sp_bits_f c_16]; done)) (by rw [Nat.pow_succ]; omega) (fun j hj => (hpost.1 j hj).trans (hc j hj)) (fun j hj => (hpost.2 j hj).trans (hdl j hj)) (by omega)
        · -- 16 f
          refine jw_iconst (pc := 19) C dX6_hoursNow_19 ?_
          refine jw_iload_n (pc := 20) C dX6_hoursNow_20 2 rfl ?_
          refine jw_ishl (pc := 21) C (jI ((2 ^ aa : Nat) : Int)) dX6_hoursNow_21 (jI_shl1 aa (by omega)) ?_
          refine jw_goto (pc := 22) (tgt := 26) C dX6_hoursNow_22 (by decide) ?_
          refine jw_ior (pc := 26) C (jI ((B + 2 ^ aa : Nat) : Int)) dX6_hoursNow_26 (jI_or hB) ?_
          refine jw_istore_n (pc := 27) (lv' := [(1, .int (jI ((B + 2 ^ aa : Nat) : Int))), (0, .ref g), (2, .int (jI ((aa : Nat) : Int)))]) C dX6_hoursNow_27 (by decide) rfl ?_
          refine jw_iinc (pc := 28) (z := ((aa + 1 : Nat) : Int)) (lv' := [(2, .int (jI ((aa + 1 : Nat) : Int))), (1, .int (jI ((B + 2 ^ aa : Nat) : Int))), (0, .ref g)]) C dX6_hoursNow_28 2 rfl (by omega) (by decide) rfl ?_
          refine jw_goto (pc := 31) (tgt := 4) C dX6_hoursNow_31 (by decide) ?_
          refine jw_lv [2, 1, 0] rfl ?_
          exact ih_2 (aa + 1) (B + 2 ^ aa) u_13_3.1 u_13_3.2 (by omega) (by first | (rw [hB0, sp_bits_t c_16]; done) | (rw [hB0, sp_bits_f c_16]; done)) (by rw [Nat.pow_succ]; omega) (fun j hj => (hpost.1 j hj).trans (hc j hj)) (fun j hj => (hpost.2 j hj).trans (hdl j hj)) (by omega)
  refine jw_lv [2, 1, 0] rfl ?_
  exact lp_4_1 ((10 - 0) + 1) 0 0 SH SL (by omega) rfl Nat.one_pos (by first | exact (fun _ _ => rfl) | exact hpost.1) (by first | exact (fun _ _ => rfl) | exact hpost.2) (Nat.lt_succ_self _)
theorem fl_X6_hours_94 : Cond.fieldLink RX6 94 "GongTideModel" "houses" "I" ∈ wsX6_hours := by decide +kernel
theorem hi_X6_hours_X6 : ∀ w ∈ wsX60, w ∈ wsX6_hours := fun w h => List.mem_cons_of_mem _ (List.mem_append_right _ h)
def rmX6_hours : Room := { frames := 6, cells := 0, slots := 0, locals := 137 }
set_option maxHeartbeats 4000000 in
set_option maxRecDepth 100000 in
theorem con_X6_hours (lau : Launch) (D : va_G) (cI cB : ClassId) (g : Nat) (co : Int) (nh : Nat) (qk : Nat) (qv : Nat) (ns : Nat) (qh : Nat) (ql : Nat) (ch : Int) (hd : Nat) (q9 : Nat) (q10 : Nat) (q11 : Nat) (q12 : Nat) (pl : Nat) (qp : Nat) (iw : Int) (nw : Int) (nz : Int) (sd : Int64) (qs : Nat) (ik : Int) (kc : Int) (ks : Nat) (kg : Int) (kh : Nat) (k26 : Nat) (k27 : Nat) (k28 : Nat) (k29 : Nat) (k30 : Nat) (k31 : Nat) (k32 : Nat) (hx : Int64) (K : Nat → Int) (V : Nat → Int) (SH : Nat → Int) (SL : Nat → Int) (HH : Nat → Int) (HO : Nat → Int) (HL : Nat → Int) (HW : Nat → Int) (hnh : nh ≤ 5) (hns : ns ≤ 6) (hhd : hd ≤ 6) (hS : ∀ x, x < ns → 0 ≤ SH x ∧ SH x ≤ 9 ∧ 0 ≤ SL x ∧ SL x ≤ 9) (hK : ∀ x, x < 5 → 0 ≤ K x ∧ K x ≤ 4) (hV : ∀ x, x < 5 → 0 ≤ V x ∧ V x ≤ 9) (hH : ∀ x, x < hd → 0 ≤ HH x ∧ HH x < 5 ∧ 0 ≤ HO x ∧ HO x ≤ 11 ∧ 1 ≤ HL x ∧ HL x ≤ 9 ∧ 0 ≤ HW x ∧ HW x ≤ 2) : jMW (S := (Nat → Int) × (Nat → Int)) lau yX6_hours wsX6_hours rmX6_hours D cI cB [.ref g] [oM g co ((nh : Nat) : Int) qk qv ((ns : Nat) : Int) qh ql ch ((hd : Nat) : Int) q9 q10 q11 q12 ((pl : Nat) : Int) qp iw nw nz ((0 : Nat) : Int) sd qs ik kc ((ks : Nat) : Int) kg ((kh : Nat) : Int) k26 k27 k28 k29 k30 k31 k32 hx, aI cI qk 5 K, aI cI qv 5 V, aI cI qh 7 SH, aI cI ql 7 SL, aI cI q9 6 HH, aI cI q10 6 HO, aI cI q11 6 HL, aI cI q12 6 HW] (fun u => some (.int (jI (sp_hours nh K V (sp_sum SH SL (ns + 0)) HH HO HL HW hd)))) (fun u => (∀ j, j < ns → u.1 j = SH j) ∧ (∀ j, j < ns → u.2 j = SL j)) (fun u => [oM g co ((nh : Nat) : Int) qk qv ((ns : Nat) : Int) qh ql ch ((hd : Nat) : Int) q9 q10 q11 q12 ((pl : Nat) : Int) qp iw nw nz ((0 : Nat) : Int) sd qs ik kc ((ks : Nat) : Int) kg ((kh : Nat) : Int) k26 k27 k28 k29 k30 k31 k32 hx, aI cI qk 5 K, aI cI qv 5 V, aI cI qh 7 u.1, aI cI ql 7 u.2, aI cI q9 6 HH, aI cI q10 6 HO, aI cI q11 6 HL, aI cI q12 6 HW]) := by
  refine jMW.of (own := RX6) (cc := cX6_hours) (maxL := 1) (ret := (some .int)) rfl (by decide) rfl (Nat.le_of_ble_eq_true rfl) ?_
  intro X C E
  refine jw_lv (lv' := [(0, .ref g)]) [0] rfl ?_
  refine jw_aload_n (pc := 0) C dX6_hours_0 0 rfl ?_
  refine jw_get (pc := 1) C hi_X6_hours_X6 0 rfl rfl 1 (by decide) fl_X6_hours_94 rfl rfl dX6_hours_1 ?_
  refine jw_if_ne (pc := 4) (tgt := 12) C dX6_hours_4 (by decide) (by omega) (fun c_4 => ?_) (fun c_4 => ?_)
  · -- 4 t
    refine jw_aload_n (pc := 12) C dX6_hours_12 0 rfl ?_
    refine jw_callWV (pc := 13) C [] [] 0 (con_X6_hoursNow lau D cI cB g co nh qk qv ns qh ql ch hd q9 q10 q11 q12 pl qp iw nw nz sd qs ik kc ks kg kh k26 k27 k28 k29 k30 k31 k32 hx K V SH SL HH HO HL HW (by omega) (by omega) (by omega) hS hK hV hH) gX6_hours_X6_hoursNow rfl rfl rfl (by decide +kernel) ⟨Nat.le_of_ble_eq_true rfl, Nat.le_of_ble_eq_true rfl⟩ 0 rfl rfl [0, 1, 2, 3, 4, 5, 6, 7, 8] [] [0, 1, 2, 3, 4, 5, 6, 7, 8] (wr := []) rfl rfl (by decide) (by decide) (fun _ => rfl) (wN := fun u_13_1 => [oM g co ((nh : Nat) : Int) qk qv ((ns : Nat) : Int) qh ql ch ((hd : Nat) : Int) q9 q10 q11 q12 ((pl : Nat) : Int) qp iw nw nz ((0 : Nat) : Int) sd qs ik kc ((ks : Nat) : Int) kg ((kh : Nat) : Int) k26 k27 k28 k29 k30 k31 k32 hx, aI cI qk 5 K, aI cI qv 5 V, aI cI qh 7 u_13_1.1, aI cI ql 7 u_13_1.2, aI cI q9 6 HH, aI cI q10 6 HO, aI cI q11 6 HL, aI cI q12 6 HW]) (fun _ => rfl) (stN := fun u_13_1 => [.int (jI ((sp_hrs K V (sp_sum SH SL (ns + 0)) HH HO HL HW hd : Nat) : Int))]) (fun _ => rfl) rfl (Nat.le_of_ble_eq_true rfl) rfl dX6_hours_13 (fun u_13_1 hu_13_1 => ?_)
    (try dsimp only at hu_13_1)
    have hpost := hu_13_1
    exact jw_iretW (pc := 16) C E dX6_hours_16 (((u_13_1.1), (u_13_1.2))) (congrArg (fun z => some (Value.int (jI z))) (by unfold sp_hours; first | (rw [if_neg (by omega)]; done) | (rw [if_pos (by omega)]; done))) (by first | exact ⟨hc, hdl⟩ | exact hpost | exact ⟨fun _ _ => rfl, fun _ _ => rfl⟩) rfl
  · -- 4 f
    refine jw_bipush (pc := 7) C dX6_hours_7 (by decide +kernel) ?_
    refine jw_goto (pc := 9) (tgt := 16) C dX6_hours_9 (by decide) ?_
    exact jw_iretW (pc := 16) C E dX6_hours_16 (((SH), (SL))) (congrArg (fun z => some (Value.int (jI z))) (by unfold sp_hours; first | (rw [if_neg (by omega)]; done) | (rw [if_pos (by omega)]; done))) (by first | exact ⟨hc, hdl⟩ | exact hpost | exact ⟨fun _ _ => rfl, fun _ _ => rfl⟩) rfl
theorem fl_X6_worstIn_28 : Cond.fieldLink RX6 28 "GongTideModel" "heardLoud" "[I" ∈ wsX6_worstIn := by decide +kernel
theorem fl_X6_worstIn_106 : Cond.fieldLink RX6 106 "GongTideModel" "heard" "I" ∈ wsX6_worstIn := by decide +kernel
theorem fl_X6_worstIn_109 : Cond.fieldLink RX6 109 "GongTideModel" "thought" "I" ∈ wsX6_worstIn := by decide +kernel
theorem hi_X6_worstIn_X6 : ∀ w ∈ wsX60, w ∈ wsX6_worstIn := fun w h => List.mem_cons_of_mem _ (List.mem_append_right _ h)
def rmX6_worstIn : Room := { frames := 4, cells := 0, slots := 0, locals := 92 }
set_option maxHeartbeats 4000000 in
set_option maxRecDepth 100000 in
theorem con_X6_worstIn (lau : Launch) (D : va_G) (cI cB : ClassId) (g : Nat) (co : Int) (nh : Nat) (qk : Nat) (qv : Nat) (ns : Nat) (qh : Nat) (ql : Nat) (ch : Int) (hd : Nat) (q9 : Nat) (q10 : Nat) (q11 : Nat) (q12 : Nat) (pl : Nat) (qp : Nat) (iw : Int) (nw : Int) (nz : Int) (sd : Int64) (qs : Nat) (ik : Int) (kc : Int) (ks : Nat) (kg : Int) (kh : Nat) (k26 : Nat) (k27 : Nat) (k28 : Nat) (k29 : Nat) (k30 : Nat) (k31 : Nat) (k32 : Nat) (hx : Int64) (K : Nat → Int) (V : Nat → Int) (SH : Nat → Int) (SL : Nat → Int) (HL : Nat → Int) (b : Nat) (k : Nat) (i : Nat) (hns : ns ≤ 6) (hhd : hd ≤ 6) (hd0 : 0 < hd) (hL : 1 ≤ HL (hd - 1) ∧ HL (hd - 1) ≤ 9) (hS : ∀ x, x < ns → 0 ≤ SH x ∧ SH x ≤ 9 ∧ 0 ≤ SL x ∧ SL x ≤ 9) (hK : ∀ x, x < 5 → 0 ≤ K x ∧ K x ≤ 4) (hV : ∀ x, x < 5 → 0 ≤ V x ∧ V x ≤ 9) (hb : b < 1024) (hk : k < 5) (hi : i < 12) : jMW (S := (Nat → Int) × (Nat → Int)) lau yX6_worstIn wsX6_worstIn rmX6_worstIn D cI cB [.ref g, .int (jI ((b : Nat) : Int)), .int (jI ((k : Nat) : Int)), .int (jI ((i : Nat) : Int))] [oM g co ((nh : Nat) : Int) qk qv ((ns : Nat) : Int) qh ql ch ((hd : Nat) : Int) q9 q10 q11 q12 ((pl : Nat) : Int) qp iw nw nz ((0 : Nat) : Int) sd qs ik kc ((ks : Nat) : Int) kg ((kh : Nat) : Int) k26 k27 k28 k29 k30 k31 k32 hx, aI cI qk 5 K, aI cI qv 5 V, aI cI qh 7 SH, aI cI ql 7 SL, aI cI q11 6 HL] (fun u => some (.int (jI ((sp_worst (K k) (V k) (sp_sum SH SL (ns + 0)) b (HL (hd - 1)) i : Nat) : Int)))) (fun u => (∀ j, j < ns → u.1 j = SH j) ∧ (∀ j, j < ns → u.2 j = SL j)) (fun u => [oM g co ((nh : Nat) : Int) qk qv ((ns : Nat) : Int) qh ql ch ((hd : Nat) : Int) q9 q10 q11 q12 ((pl : Nat) : Int) qp iw nw nz ((0 : Nat) : Int) sd qs ik kc ((ks : Nat) : Int) kg ((kh : Nat) : Int) k26 k27 k28 k29 k30 k31 k32 hx, aI cI qk 5 K, aI cI qv 5 V, aI cI qh 7 u.1, aI cI ql 7 u.2, aI cI q11 6 HL]) := by
  refine jMW.of (own := RX6) (cc := cX6_worstIn) (maxL := 9) (ret := (some .int)) rfl (by decide) rfl (Nat.le_of_ble_eq_true rfl) ?_
  intro X C E
  refine jw_lv (lv' := [(0, .ref g), (1, .int (jI ((b : Nat) : Int))), (2, .int (jI ((k : Nat) : Int))), (3, .int (jI ((i : Nat) : Int)))]) [0, 1, 2, 3] rfl ?_
  refine jw_iconst (pc := 0) C dX6_worstIn_0 ?_
  refine jw_istore (pc := 1) (lv' := [(4, .int (jI 0)), (0, .ref g), (1, .int (jI ((b : Nat) : Int))), (2, .int (jI ((k : Nat) : Int))), (3, .int (jI ((i : Nat) : Int)))]) C dX6_worstIn_1 (by decide) rfl ?_
  refine jw_iconst (pc := 3) C dX6_worstIn_3 ?_
  refine jw_istore (pc := 4) (lv' := [(5, .int (jI 0)), (4, .int (jI 0)), (0, .ref g), (1, .int (jI ((b : Nat) : Int))), (2, .int (jI ((k : Nat) : Int))), (3, .int (jI ((i : Nat) : Int)))]) C dX6_worstIn_4 (by decide) rfl ?_
  refine jw_iconst (pc := 6) C dX6_worstIn_6 ?_
  refine jw_istore (pc := 7) (lv' := [(6, .int (jI 0)), (5, .int (jI 0)), (4, .int (jI 0)), (0, .ref g), (1, .int (jI ((b : Nat) : Int))), (2, .int (jI ((k : Nat) : Int))), (3, .int (jI ((i : Nat) : Int)))]) C dX6_worstIn_7 (by decide) rfl ?_
  refine jw_iconst (pc := 9) C dX6_worstIn_9 ?_
  refine jw_istore (pc := 10) (lv' := [(7, .int (jI 0)), (6, .int (jI 0)), (5, .int (jI 0)), (4, .int (jI 0)), (0, .ref g), (1, .int (jI ((b : Nat) : Int))), (2, .int (jI ((k : Nat) : Int))), (3, .int (jI ((i : Nat) : Int)))]) C dX6_worstIn_10 (by decide) rfl ?_
  have lp_12_1 : ∀ (fu : Nat) (w : Nat) (m0 : Nat) (m1 : Nat) (m2 : Nat) (tt : Nat) (c : Nat → Int) (d : Nat → Int), (w ≤ 10) → (m0 ≤ w ∧ m1 ≤ w ∧ m2 ≤ w) → (m0 = sp_cnt (sp_lc (K k) (V k) (sp_sum SH SL (ns + 0)) b (HL (hd - 1)) i 0) w) → (m1 = sp_cnt (sp_lc (K k) (V k) (sp_sum SH SL (ns + 0)) b (HL (hd - 1)) i 1) w) → (m2 = sp_cnt (sp_lc (K k) (V k) (sp_sum SH SL (ns + 0)) b (HL (hd - 1)) i 2) w) → (∀ j, j < ns → c j = SH j) → (∀ j, j < ns → d j = SL j) → 10 - w < fu → jW X 12 [(0, .ref g), (1, .int (jI ((b : Nat) : Int))), (2, .int (jI ((k : Nat) : Int))), (3, .int (jI ((i : Nat) : Int))), (4, .int (jI ((m0 : Nat) : Int))), (5, .int (jI ((m1 : Nat) : Int))), (6, .int (jI ((m2 : Nat) : Int))), (7, .int (jI ((w : Nat) : Int)))] [] [oM g co ((nh : Nat) : Int) qk qv ((ns : Nat) : Int) qh ql ch ((hd : Nat) : Int) q9 q10 q11 q12 ((pl : Nat) : Int) qp iw nw nz ((tt : Nat) : Int) sd qs ik kc ((ks : Nat) : Int) kg ((kh : Nat) : Int) k26 k27 k28 k29 k30 k31 k32 hx, aI cI qk 5 K, aI cI qv 5 V, aI cI qh 7 c, aI cI ql 7 d, aI cI q11 6 HL] := by
    intro fu
    induction fu with
    | zero => intro w m0 m1 m2 tt c d hw10 hmb hm0 hm1 hm2 hc hdl hm; exact absurd hm (Nat.not_lt_zero _)
    | succ fu ih_2 =>
      intro w m0 m1 m2 tt c d hw10 hmb hm0 hm1 hm2 hc hdl hm
      refine jw_iload (pc := 12) C dX6_worstIn_12 7 rfl ?_
      refine jw_bipush (pc := 14) C dX6_worstIn_14 (by decide +kernel) ?_
      refine jw_icmp_gt (pc := 16) (tgt := 124) C dX6_worstIn_16 (by decide) (by omega) (by omega) (fun c_16 => ?_) (fun c_16 => ?_)
      · -- 16 t
        rw [show w = 10 by omega] at hm0 hm1 hm2
        refine jw_aload_n (pc := 124) C dX6_worstIn_124 0 rfl ?_
        refine jw_iconst (pc := 125) C dX6_worstIn_125 ?_
        refine jw_put (pc := 126) (ty := .int) (ws' := [oM g co ((nh : Nat) : Int) qk qv ((ns : Nat) : Int) qh ql ch ((hd : Nat) : Int) q9 q10 q11 q12 ((pl : Nat) : Int) qp iw nw nz 0 sd qs ik kc ((ks : Nat) : Int) kg ((kh : Nat) : Int) k26 k27 k28 k29 k30 k31 k32 hx, aI cI qk 5 K, aI cI qv 5 V, aI cI qh 7 c, aI cI ql 7 d, aI cI q11 6 HL]) C hi_X6_worstIn_X6 tyX6 tyX6_ok nmX6 0 rfl rfl 18 (by decide) fl_X6_worstIn_109 rfl rfl (by decide +kernel) rfl rfl (Nat.le_of_ble_eq_true rfl) rfl dX6_worstIn_126 ?_
        refine jw_iload (pc := 129) C dX6_worstIn_129 4 rfl ?_
        refine jw_iload (pc := 131) C dX6_worstIn_131 5 rfl ?_
        refine jw_icmp_le (pc := 133) (tgt := 141) C dX6_worstIn_133 (by decide) (by omega) (by omega) (fun c_133 => ?_) (fun c_133 => ?_)
        · -- 133 t
          refine jw_iload (pc := 141) C dX6_worstIn_141 5 rfl ?_
          refine jw_istore (pc := 143) (lv' := [(7, .int (jI ((m1 : Nat) : Int))), (0, .ref g), (1, .int (jI ((b : Nat) : Int))), (2, .int (jI ((k : Nat) : Int))), (3, .int (jI ((i : Nat) : Int))), (4, .int (jI ((m0 : Nat) : Int))), (5, .int (jI ((m1 : Nat) : Int))), (6, .int (jI ((m2 : Nat) : Int)))]) C dX6_worstIn_143 (by decide) rfl ?_
          refine jw_iload (pc := 145) C dX6_worstIn_145 0 rfl ?_
          refine jw_iload (pc := 147) C dX6_worstIn_147 7 rfl ?_
          refine jw_icmp_le (pc := 149) (tgt := 157) C dX6_worstIn_149 (by decide) (by omega) (by omega) (fun c_149 => ?_) (fun c_149 => ?_)
          · -- 149 t
            refine jw_iload (pc := 157) C dX6_worstIn_157 7 rfl ?_
            exact jw_iretW (pc := 159) C E dX6_worstIn_159 (((c), (d))) (congrArg (fun z : Nat => some (Value.int (jI ((z : Nat) : Int)))) (by unfold sp_worst sp_mx sp_left; rw [← hm0, ← hm1, ← hm2]; (repeat' split) <;> omega)) (by first | exact ⟨hc, hdl⟩ | exact hpost | exact ⟨fun _ _ => rfl, fun _ _ => rfl⟩) rfl
          · -- 149 f
            refine jw_iload (pc := 152) C dX6_worstIn_152 0 rfl ?_
            refine jw_goto (pc := 154) (tgt := 159) C dX6_worstIn_154 (by decide) ?_
            exact jw_iretW (pc := 159) C E dX6_worstIn_159 (((c), (d))) (congrArg (fun z : Nat => some (Value.int (jI ((z : Nat) : Int)))) (by unfold sp_worst sp_mx sp_left; rw [← hm0, ← hm1, ← hm2]; (repeat' split) <;> omega)) (by first | exact ⟨hc, hdl⟩ | exact hpost | exact ⟨fun _ _ => rfl, fun _ _ => rfl⟩) rfl
        · -- 133 f
          refine jw_iload (pc := 136) C dX6_worstIn_136 4 rfl ?_
          refine jw_goto (pc := 138) (tgt := 143) C dX6_worstIn_138 (by decide) ?_
          refine jw_istore (pc := 143) (lv' := [(7, .int (jI ((m0 : Nat) : Int))), (0, .ref g), (1, .int (jI ((b : Nat) : Int))), (2, .int (jI ((k : Nat) : Int))), (3, .int (jI ((i : Nat) : Int))), (4, .int (jI ((m0 : Nat) : Int))), (5, .int (jI ((m1 : Nat) : Int))), (6, .int (jI ((m2 : Nat) : Int)))]) C dX6_worstIn_143 (by decide) rfl ?_
          refine jw_iload (pc := 145) C dX6_worstIn_145 0 rfl ?_
          refine jw_iload (pc := 147) C dX6_worstIn_147 7 rfl ?_
          refine jw_icmp_le (pc := 149) (tgt := 157) C dX6_worstIn_149 (by decide) (by omega) (by omega) (fun c_149 => ?_) (fun c_149 => ?_)
          · -- 149 t
            refine jw_iload (pc := 157) C dX6_worstIn_157 7 rfl ?_
            exact jw_iretW (pc := 159) C E dX6_worstIn_159 (((c), (d))) (congrArg (fun z : Nat => some (Value.int (jI ((z : Nat) : Int)))) (by unfold sp_worst sp_mx sp_left; rw [← hm0, ← hm1, ← hm2]; (repeat' split) <;> omega)) (by first | exact ⟨hc, hdl⟩ | exact hpost | exact ⟨fun _ _ => rfl, fun _ _ => rfl⟩) rfl
          · -- 149 f
            refine jw_iload (pc := 152) C dX6_worstIn_152 0 rfl ?_
            refine jw_goto (pc := 154) (tgt := 159) C dX6_worstIn_154 (by decide) ?_
            exact jw_iretW (pc := 159) C E dX6_worstIn_159 (((c), (d))) (congrArg (fun z : Nat => some (Value.int (jI ((z : Nat) : Int)))) (by unfold sp_worst sp_mx sp_left; rw [← hm0, ← hm1, ← hm2]; (repeat' split) <;> omega)) (by first | exact ⟨hc, hdl⟩ | exact hpost | exact ⟨fun _ _ => rfl, fun _ _ => rfl⟩) rfl
      · -- 16 f
        refine jw_aload_n (pc := 19) C dX6_worstIn_19 0 rfl ?_
        refine jw_iload (pc := 20) C dX6_worstIn_20 7 rfl ?_
        refine jw_aload_n (pc := 22) C dX6_worstIn_22 0 rfl ?_
        refine jw_get (pc := 23) C hi_X6_worstIn_X6 0 rfl rfl 11 (by decide) fl_X6_worstIn_28 rfl rfl dX6_worstIn_23 ?_
        refine jw_aload_n (pc := 26) C dX6_worstIn_26 0 rfl ?_
        refine jw_get (pc := 27) C hi_X6_worstIn_X6 0 rfl rfl 8 (by decide) fl_X6_worstIn_106 rfl rfl dX6_worstIn_27 ?_
        refine jw_iconst (pc := 30) C dX6_worstIn_30 ?_
        refine jw_isub (pc := 31) (z := ((hd - 1 : Nat) : Int)) C dX6_worstIn_31 (by omega) ?_
        refine jw_iald (pc := 32) C (f := HL) 5 (hd - 1) rfl rfl (by omega) (by decide) dX6_worstIn_32 ?_
        refine jw_callWV (pc := 33) C [.int (jI ((((w : Nat) : Int)))), .int (jI (((HL (hd - 1)))))] [] 2 (con_X6_think lau D cI cB g co nh qk qv ns qh ql ch hd q9 q10 q11 q12 pl qp iw nw nz tt sd qs ik kc ks kg kh k26 k27 k28 k29 k30 k31 k32 hx c d (((w : Nat) : Int)) ((HL (hd - 1))) (by omega)) gX6_worstIn_X6_think rfl rfl rfl (by decide +kernel) ⟨Nat.le_of_ble_eq_true rfl, Nat.le_of_ble_eq_true rfl⟩ 0 rfl rfl [0, 3, 4] [1, 2, 5] [3, 0, 1, 4, 5, 2] (wr := [aI cI qk 5 K, aI cI qv 5 V, aI cI q11 6 HL]) rfl rfl (by decide) (by decide) (fun _ => rfl) (wN := fun u_33_3 => [oM g co ((nh : Nat) : Int) qk qv ((ns : Nat) : Int) qh ql ch ((hd : Nat) : Int) q9 q10 q11 q12 ((pl : Nat) : Int) qp iw nw nz ((1 : Nat) : Int) sd qs ik kc ((ks : Nat) : Int) kg ((kh : Nat) : Int) k26 k27 k28 k29 k30 k31 k32 hx, aI cI qk 5 K, aI cI qv 5 V, aI cI qh 7 (va_up c ns (((w : Nat) : Int))), aI cI ql 7 (va_up d ns ((HL (hd - 1)))), aI cI q11 6 HL]) (fun _ => rfl) (stN := fun u_33_3 => []) (fun _ => rfl) rfl (Nat.le_of_ble_eq_true rfl) rfl dX6_worstIn_33 (fun u_33_3 hu_33_3 => ?_)
        have eR : sp_sum (va_up c ns ((w : Nat) : Int)) (va_up d ns (HL (hd - 1))) (ns + 1) = sp_add (sp_sum SH SL (ns + 0)) ((w : Nat) : Int) (HL (hd - 1)) := sp_sum_think hc hdl
        have hbt := sp_bit_b b w
        refine jw_aload_n (pc := 36) C dX6_worstIn_36 0 rfl ?_
        refine jw_iload_n (pc := 37) C dX6_worstIn_37 2 rfl ?_
        refine jw_iload_n (pc := 38) C dX6_worstIn_38 3 rfl ?_
        refine jw_callRV (pc := 39) C [.int (jI ((k : Nat) : Int)), .int (jI ((i : Nat) : Int))] [] 2 (con_X6_howAt lau D cI cB g co nh qk qv ns qh ql ch hd q9 q10 q11 q12 pl qp iw nw nz 1 sd qs ik kc ks kg kh k26 k27 k28 k29 k30 k31 k32 hx K V (va_up c ns (((w : Nat) : Int))) (va_up d ns ((HL (hd - 1)))) k i (by omega) (by omega) (sp_think_b hS hc hdl (by omega) (by omega)) hK hV (by omega) (by omega)) gX6_worstIn_X6_howAt rfl rfl rfl (by decide +kernel) ⟨Nat.le_of_ble_eq_true rfl, Nat.le_of_ble_eq_true rfl⟩ 0 rfl rfl [0, 1, 2, 3, 4] rfl rfl (Nat.le_of_ble_eq_true rfl) rfl dX6_worstIn_39 ?_
        have b_39_0 := sp_hw_b (K k) (V k) (sp_sum (va_up c ns (((w : Nat) : Int))) (va_up d ns ((HL (hd - 1)))) (ns + 1)) i
        refine jw_top (y := jI (sp_hw (K k) (V k) (sp_add (sp_sum SH SL (ns + 0)) ((w : Nat) : Int) (HL (hd - 1))) i)) (congrArg jI (by rw [eR])) ?_
        rw [eR] at b_39_0
        refine jw_istore (pc := 42) (lv' := [(8, .int (jI (sp_hw (K k) (V k) (sp_add (sp_sum SH SL (ns + 0)) ((w : Nat) : Int) (HL (hd - 1))) i))), (0, .ref g), (1, .int (jI ((b : Nat) : Int))), (2, .int (jI ((k : Nat) : Int))), (3, .int (jI ((i : Nat) : Int))), (4, .int (jI ((m0 : Nat) : Int))), (5, .int (jI ((m1 : Nat) : Int))), (6, .int (jI ((m2 : Nat) : Int))), (7, .int (jI ((w : Nat) : Int)))]) C dX6_worstIn_42 (by decide) rfl ?_
        have jn_65_4 : ∀ (t0 : Nat), (m0 + t0 = sp_cnt (sp_lc (K k) (V k) (sp_sum SH SL (ns + 0)) b (HL (hd - 1)) i 0) (w + 1)) → (t0 ≤ 1) → jW X 65 [(0, .ref g), (1, .int (jI ((b : Nat) : Int))), (2, .int (jI ((k : Nat) : Int))), (3, .int (jI ((i : Nat) : Int))), (4, .int (jI ((m0 : Nat) : Int))), (5, .int (jI ((m1 : Nat) : Int))), (6, .int (jI ((m2 : Nat) : Int))), (7, .int (jI ((w : Nat) : Int))), (8, .int (jI (sp_hw (K k) (V k) (sp_add (sp_sum SH SL (ns + 0)) ((w : Nat) : Int) (HL (hd - 1))) i)))] [.int (jI ((t0 : Nat) : Int)), .int (jI ((m0 : Nat) : Int))] [oM g co ((nh : Nat) : Int) qk qv ((ns : Nat) : Int) qh ql ch ((hd : Nat) : Int) q9 q10 q11 q12 ((pl : Nat) : Int) qp iw nw nz ((1 : Nat) : Int) sd qs ik kc ((ks : Nat) : Int) kg ((kh : Nat) : Int) k26 k27 k28 k29 k30 k31 k32 hx, aI cI qk 5 K, aI cI qv 5 V, aI cI qh 7 (va_up c ns (((w : Nat) : Int))), aI cI ql 7 (va_up d ns ((HL (hd - 1)))), aI cI q11 6 HL] := by
          intro t0 ht0 htb0
          refine jw_iadd (pc := 65) (z := ((m0 + t0 : Nat) : Int)) C dX6_worstIn_65 (by omega) ?_
          refine jw_istore (pc := 66) (lv' := [(4, .int (jI ((m0 + t0 : Nat) : Int))), (0, .ref g), (1, .int (jI ((b : Nat) : Int))), (2, .int (jI ((k : Nat) : Int))), (3, .int (jI ((i : Nat) : Int))), (5, .int (jI ((m1 : Nat) : Int))), (6, .int (jI ((m2 : Nat) : Int))), (7, .int (jI ((w : Nat) : Int))), (8, .int (jI (sp_hw (K k) (V k) (sp_add (sp_sum SH SL (ns + 0)) ((w : Nat) : Int) (HL (hd - 1))) i)))]) C dX6_worstIn_66 (by decide) rfl ?_
          have jn_90_5 : ∀ (t1 : Nat), (m1 + t1 = sp_cnt (sp_lc (K k) (V k) (sp_sum SH SL (ns + 0)) b (HL (hd - 1)) i 1) (w + 1)) → (t1 ≤ 1) → jW X 90 [(0, .ref g), (1, .int (jI ((b : Nat) : Int))), (2, .int (jI ((k : Nat) : Int))), (3, .int (jI ((i : Nat) : Int))), (4, .int (jI ((m0 + t0 : Nat) : Int))), (5, .int (jI ((m1 : Nat) : Int))), (6, .int (jI ((m2 : Nat) : Int))), (7, .int (jI ((w : Nat) : Int))), (8, .int (jI (sp_hw (K k) (V k) (sp_add (sp_sum SH SL (ns + 0)) ((w : Nat) : Int) (HL (hd - 1))) i)))] [.int (jI ((t1 : Nat) : Int)), .int (jI ((m1 : Nat) : Int))] [oM g co ((nh : Nat) : Int) qk qv ((ns : Nat) : Int) qh ql ch ((hd : Nat) : Int) q9 q10 q11 q12 ((pl : Nat) : Int) qp iw nw nz ((1 : Nat) : Int) sd qs ik kc ((ks : Nat) : Int) kg ((kh : Nat) : Int) k26 k27 k28 k29 k30 k31 k32 hx, aI cI qk 5 K, aI cI qv 5 V, aI cI qh 7 (va_up c ns (((w : Nat) : Int))), aI cI ql 7 (va_up d ns ((HL (hd - 1)))), aI cI q11 6 HL] := by
            intro t1 ht1 htb1
            refine jw_iadd (pc := 90) (z := ((m1 + t1 : Nat) : Int)) C dX6_worstIn_90 (by omega) ?_
            refine jw_istore (pc := 91) (lv' := [(5, .int (jI ((m1 + t1 : Nat) : Int))), (0, .ref g), (1, .int (jI ((b : Nat) : Int))), (2, .int (jI ((k : Nat) : Int))), (3, .int (jI ((i : Nat) : Int))), (4, .int (jI ((m0 + t0 : Nat) : Int))), (6, .int (jI ((m2 : Nat) : Int))), (7, .int (jI ((w : Nat) : Int))), (8, .int (jI (sp_hw (K k) (V k) (sp_add (sp_sum SH SL (ns + 0)) ((w : Nat) : Int) (HL (hd - 1))) i)))]) C dX6_worstIn_91 (by decide) rfl ?_
            have jn_115_6 : ∀ (t2 : Nat), (m2 + t2 = sp_cnt (sp_lc (K k) (V k) (sp_sum SH SL (ns + 0)) b (HL (hd - 1)) i 2) (w + 1)) → (t2 ≤ 1) → jW X 115 [(0, .ref g), (1, .int (jI ((b : Nat) : Int))), (2, .int (jI ((k : Nat) : Int))), (3, .int (jI ((i : Nat) : Int))), (4, .int (jI ((m0 + t0 : Nat) : Int))), (5, .int (jI ((m1 + t1 : Nat) : Int))), (6, .int (jI ((m2 : Nat) : Int))), (7, .int (jI ((w : Nat) : Int))), (8, .int (jI (sp_hw (K k) (V k) (sp_add (sp_sum SH SL (ns + 0)) ((w : Nat) : Int) (HL (hd - 1))) i)))] [.int (jI ((t2 : Nat) : Int)), .int (jI ((m2 : Nat) : Int))] [oM g co ((nh : Nat) : Int) qk qv ((ns : Nat) : Int) qh ql ch ((hd : Nat) : Int) q9 q10 q11 q12 ((pl : Nat) : Int) qp iw nw nz ((1 : Nat) : Int) sd qs ik kc ((ks : Nat) : Int) kg ((kh : Nat) : Int) k26 k27 k28 k29 k30 k31 k32 hx, aI cI qk 5 K, aI cI qv 5 V, aI cI qh 7 (va_up c ns (((w : Nat) : Int))), aI cI ql 7 (va_up d ns ((HL (hd - 1)))), aI cI q11 6 HL] := by
              intro t2 ht2 htb2
              refine jw_iadd (pc := 115) (z := ((m2 + t2 : Nat) : Int)) C dX6_worstIn_115 (by omega) ?_
              refine jw_istore (pc := 116) (lv' := [(6, .int (jI ((m2 + t2 : Nat) : Int))), (0, .ref g), (1, .int (jI ((b : Nat) : Int))), (2, .int (jI ((k : Nat) : Int))), (3, .int (jI ((i : Nat) : Int))), (4, .int (jI ((m0 + t0 : Nat) : Int))), (5, .int (jI ((m1 + t1 : Nat) : Int))), (7, .int (jI ((w : Nat) : Int))), (8, .int (jI (sp_hw (K k) (V k) (sp_add (sp_sum SH SL (ns + 0)) ((w : Nat) : Int) (HL (hd - 1))) i)))]) C dX6_worstIn_116 (by decide) rfl ?_
              refine jw_iinc (pc := 118) (z := ((w + 1 : Nat) : Int)) (lv' := [(7, .int (jI ((w + 1 : Nat) : Int))), (6, .int (jI ((m2 + t2 : Nat) : Int))), (0, .ref g), (1, .int (jI ((b : Nat) : Int))), (2, .int (jI ((k : Nat) : Int))), (3, .int (jI ((i : Nat) : Int))), (4, .int (jI ((m0 + t0 : Nat) : Int))), (5, .int (jI ((m1 + t1 : Nat) : Int))), (8, .int (jI (sp_hw (K k) (V k) (sp_add (sp_sum SH SL (ns + 0)) ((w : Nat) : Int) (HL (hd - 1))) i)))]) C dX6_worstIn_118 7 rfl (by omega) (by decide) rfl ?_
              refine jw_goto (pc := 121) (tgt := 12) C dX6_worstIn_121 (by decide) ?_
              refine jw_lv [2, 3, 4, 5, 6, 7, 1, 0] rfl ?_
              exact ih_2 (w + 1) (m0 + t0) (m1 + t1) (m2 + t2) 1 (va_up c ns (((w : Nat) : Int))) (va_up d ns ((HL (hd - 1)))) (by omega) (by omega) ht0 ht1 ht2 (sp_keep hc) (sp_keep hdl) (by omega)
            refine jw_iload (pc := 93) C dX6_worstIn_93 6 rfl ?_
            refine jw_iload_n (pc := 95) C dX6_worstIn_95 2 rfl ?_
            refine jw_iload (pc := 96) C dX6_worstIn_96 7 rfl ?_
            refine jw_callRS (pc := 98) C [.int (jI ((b : Nat) : Int)), .int (jI ((w : Nat) : Int))] [.int (jI ((m2 : Nat) : Int))] 2 (con_X6_isIn lau D cI cB b w (by omega) (by omega)) gX6_worstIn_X6_isIn rfl rfl rfl (by decide +kernel) ⟨Nat.le_of_ble_eq_true rfl, Nat.le_of_ble_eq_true rfl⟩ [] rfl rfl (Nat.le_of_ble_eq_true rfl) rfl dX6_worstIn_98 ?_
            refine jw_ifb_eq (pc := 101) (tgt := 114) C dX6_worstIn_101 (by decide) (fun c_101 => ?_) (fun c_101 => ?_)
            · -- 101 t
              refine jw_iconst (pc := 114) C dX6_worstIn_114 ?_
              refine jw_lv [1, 2, 3, 4, 5, 0, 6, 7, 8] rfl ?_
              exact jn_115_6 0 (by rw [hm2]; first | exact (sp_cnt_t (s := sp_lc (K k) (V k) (sp_sum SH SL (ns + 0)) b (HL (hd - 1)) i 2) (decide_eq_true ⟨by omega, by omega⟩)).symm | exact (sp_cnt_f (s := sp_lc (K k) (V k) (sp_sum SH SL (ns + 0)) b (HL (hd - 1)) i 2) (fun q => by have := of_decide_eq_true q; omega)).symm) (by omega)
            · -- 101 f
              refine jw_iload (pc := 104) C dX6_worstIn_104 8 rfl ?_
              refine jw_iconst (pc := 106) C dX6_worstIn_106 ?_
              refine jw_icmp_ne (pc := 107) (tgt := 114) C dX6_worstIn_107 (by decide) (by omega) (by omega) (fun c_107 => ?_) (fun c_107 => ?_)
              · -- 107 t
                refine jw_iconst (pc := 114) C dX6_worstIn_114 ?_
                refine jw_lv [1, 2, 3, 4, 5, 0, 6, 7, 8] rfl ?_
                exact jn_115_6 0 (by rw [hm2]; first | exact (sp_cnt_t (s := sp_lc (K k) (V k) (sp_sum SH SL (ns + 0)) b (HL (hd - 1)) i 2) (decide_eq_true ⟨by omega, by omega⟩)).symm | exact (sp_cnt_f (s := sp_lc (K k) (V k) (sp_sum SH SL (ns + 0)) b (HL (hd - 1)) i 2) (fun q => by have := of_decide_eq_true q; omega)).symm) (by omega)
              · -- 107 f
                refine jw_iconst (pc := 110) C dX6_worstIn_110 ?_
                refine jw_goto (pc := 111) (tgt := 115) C dX6_worstIn_111 (by decide) ?_
                refine jw_lv [1, 2, 3, 4, 5, 0, 6, 7, 8] rfl ?_
                exact jn_115_6 1 (by rw [hm2]; first | exact (sp_cnt_t (s := sp_lc (K k) (V k) (sp_sum SH SL (ns + 0)) b (HL (hd - 1)) i 2) (decide_eq_true ⟨by omega, by omega⟩)).symm | exact (sp_cnt_f (s := sp_lc (K k) (V k) (sp_sum SH SL (ns + 0)) b (HL (hd - 1)) i 2) (fun q => by have := of_decide_eq_true q; omega)).symm) (by omega)
          refine jw_iload (pc := 68) C dX6_worstIn_68 5 rfl ?_
          refine jw_iload_n (pc := 70) C dX6_worstIn_70 2 rfl ?_
          refine jw_iload (pc := 71) C dX6_worstIn_71 7 rfl ?_
          refine jw_callRS (pc := 73) C [.int (jI ((b : Nat) : Int)), .int (jI ((w : Nat) : Int))] [.int (jI ((m1 : Nat) : Int))] 2 (con_X6_isIn lau D cI cB b w (by omega) (by omega)) gX6_worstIn_X6_isIn rfl rfl rfl (by decide +kernel) ⟨Nat.le_of_ble_eq_true rfl, Nat.le_of_ble_eq_true rfl⟩ [] rfl rfl (Nat.le_of_ble_eq_true rfl) rfl dX6_worstIn_73 ?_
          refine jw_ifb_eq (pc := 76) (tgt := 89) C dX6_worstIn_76 (by decide) (fun c_76 => ?_) (fun c_76 => ?_)
          · -- 76 t
            refine jw_iconst (pc := 89) C dX6_worstIn_89 ?_
            refine jw_lv [1, 2, 3, 4, 0, 5, 6, 7, 8] rfl ?_
            exact jn_90_5 0 (by rw [hm1]; first | exact (sp_cnt_t (s := sp_lc (K k) (V k) (sp_sum SH SL (ns + 0)) b (HL (hd - 1)) i 1) (decide_eq_true ⟨by omega, by omega⟩)).symm | exact (sp_cnt_f (s := sp_lc (K k) (V k) (sp_sum SH SL (ns + 0)) b (HL (hd - 1)) i 1) (fun q => by have := of_decide_eq_true q; omega)).symm) (by omega)
          · -- 76 f
            refine jw_iload (pc := 79) C dX6_worstIn_79 8 rfl ?_
            refine jw_iconst (pc := 81) C dX6_worstIn_81 ?_
            refine jw_icmp_ne (pc := 82) (tgt := 89) C dX6_worstIn_82 (by decide) (by omega) (by omega) (fun c_82 => ?_) (fun c_82 => ?_)
            · -- 82 t
              refine jw_iconst (pc := 89) C dX6_worstIn_89 ?_
              refine jw_lv [1, 2, 3, 4, 0, 5, 6, 7, 8] rfl ?_
              exact jn_90_5 0 (by rw [hm1]; first | exact (sp_cnt_t (s := sp_lc (K k) (V k) (sp_sum SH SL (ns + 0)) b (HL (hd - 1)) i 1) (decide_eq_true ⟨by omega, by omega⟩)).symm | exact (sp_cnt_f (s := sp_lc (K k) (V k) (sp_sum SH SL (ns + 0)) b (HL (hd - 1)) i 1) (fun q => by have := of_decide_eq_true q; omega)).symm) (by omega)
            · -- 82 f
              refine jw_iconst (pc := 85) C dX6_worstIn_85 ?_
              refine jw_goto (pc := 86) (tgt := 90) C dX6_worstIn_86 (by decide) ?_
              refine jw_lv [1, 2, 3, 4, 0, 5, 6, 7, 8] rfl ?_
              exact jn_90_5 1 (by rw [hm1]; first | exact (sp_cnt_t (s := sp_lc (K k) (V k) (sp_sum SH SL (ns + 0)) b (HL (hd - 1)) i 1) (decide_eq_true ⟨by omega, by omega⟩)).symm | exact (sp_cnt_f (s := sp_lc (K k) (V k) (sp_sum SH SL (ns + 0)) b (HL (hd - 1)) i 1) (fun q => by have := of_decide_eq_true q; omega)).symm) (by omega)
        refine jw_iload (pc := 44) C dX6_worstIn_44 5 rfl ?_
        refine jw_iload_n (pc := 46) C dX6_worstIn_46 2 rfl ?_
        refine jw_iload (pc := 47) C dX6_worstIn_47 8 rfl ?_
        refine jw_callRS (pc := 49) C [.int (jI ((b : Nat) : Int)), .int (jI ((w : Nat) : Int))] [.int (jI ((m0 : Nat) : Int))] 2 (con_X6_isIn lau D cI cB b w (by omega) (by omega)) gX6_worstIn_X6_isIn rfl rfl rfl (by decide +kernel) ⟨Nat.le_of_ble_eq_true rfl, Nat.le_of_ble_eq_true rfl⟩ [] rfl rfl (Nat.le_of_ble_eq_true rfl) rfl dX6_worstIn_49 ?_
        refine jw_ifb_eq (pc := 52) (tgt := 64) C dX6_worstIn_52 (by decide) (fun c_52 => ?_) (fun c_52 => ?_)
        · -- 52 t
          refine jw_iconst (pc := 64) C dX6_worstIn_64 ?_
          refine jw_lv [1, 2, 3, 4, 5, 6, 7, 8, 0] rfl ?_
          exact jn_65_4 0 (by rw [hm0]; first | exact (sp_cnt_t (s := sp_lc (K k) (V k) (sp_sum SH SL (ns + 0)) b (HL (hd - 1)) i 0) (decide_eq_true ⟨by omega, by omega⟩)).symm | exact (sp_cnt_f (s := sp_lc (K k) (V k) (sp_sum SH SL (ns + 0)) b (HL (hd - 1)) i 0) (fun q => by have := of_decide_eq_true q; omega)).symm) (by omega)
        · -- 52 f
          refine jw_iload (pc := 55) C dX6_worstIn_55 0 rfl ?_
          refine jw_if_ne (pc := 57) (tgt := 64) C dX6_worstIn_57 (by decide) (by omega) (fun c_57 => ?_) (fun c_57 => ?_)
          · -- 57 t
            refine jw_iconst (pc := 64) C dX6_worstIn_64 ?_
            refine jw_lv [1, 2, 3, 4, 5, 6, 7, 8, 0] rfl ?_
            exact jn_65_4 0 (by rw [hm0]; first | exact (sp_cnt_t (s := sp_lc (K k) (V k) (sp_sum SH SL (ns + 0)) b (HL (hd - 1)) i 0) (decide_eq_true ⟨by omega, by omega⟩)).symm | exact (sp_cnt_f (s := sp_lc (K k) (V k) (sp_sum SH SL (ns + 0)) b (HL (hd - 1)) i 0) (fun q => by have := of_decide_eq_true q; omega)).symm) (by omega)
          · -- 57 f
            refine jw_iconst (pc := 60) C dX6_worstIn_60 ?_
            refine jw_goto (pc := 61) (tgt := 65) C dX6_worstIn_61 (by decide) ?_
            refine jw_lv [1, 2, 3, 4, 5, 6, 7, 8, 0] rfl ?_
            exact jn_65_4 1 (by rw [hm0]; first | exact (sp_cnt_t (s := sp_lc (K k) (V k) (sp_sum SH SL (ns + 0)) b (HL (hd - 1)) i 0) (decide_eq_true ⟨by omega, by omega⟩)).symm | exact (sp_cnt_f (s := sp_lc (K k) (V k) (sp_sum SH SL (ns + 0)) b (HL (hd - 1)) i 0) (fun q => by have := of_decide_eq_true q; omega)).symm) (by omega)
  refine jw_lv [4, 5, 6, 7, 3, 2, 1, 0] rfl ?_
  exact lp_12_1 ((10 - 0) + 1) 0 0 0 0 0 SH SL (by omega) (by omega) rfl rfl rfl (by first | exact (fun _ _ => rfl) | exact hpost.1) (by first | exact (fun _ _ => rfl) | exact hpost.2) (Nat.lt_succ_self _)
theorem fl_X6_askNow_94 : Cond.fieldLink RX6 94 "GongTideModel" "houses" "I" ∈ wsX6_askNow := by decide +kernel
theorem fl_X6_askNow_106 : Cond.fieldLink RX6 106 "GongTideModel" "heard" "I" ∈ wsX6_askNow := by decide +kernel
theorem hi_X6_askNow_X6 : ∀ w ∈ wsX60, w ∈ wsX6_askNow := fun w h => List.mem_cons_of_mem _ (List.mem_append_right _ h)
theorem cn_X6_askNow_176 : Cond.constant RX6 176 (268435456) ∈ wsX6_askNow := by decide +kernel
def rmX6_askNow : Room := { frames := 6, cells := 0, slots := 0, locals := 137 }
set_option maxHeartbeats 4000000 in
set_option maxRecDepth 100000 in
theorem con_X6_askNow (lau : Launch) (D : va_G) (cI cB : ClassId) (g : Nat) (co : Int) (nh : Nat) (qk : Nat) (qv : Nat) (ns : Nat) (qh : Nat) (ql : Nat) (ch : Int) (hd : Nat) (q9 : Nat) (q10 : Nat) (q11 : Nat) (q12 : Nat) (pl : Nat) (qp : Nat) (iw : Int) (nw : Int) (nz : Int) (sd : Int64) (qs : Nat) (ik : Int) (kc : Int) (ks : Nat) (kg : Int) (kh : Nat) (k26 : Nat) (k27 : Nat) (k28 : Nat) (k29 : Nat) (k30 : Nat) (k31 : Nat) (k32 : Nat) (hx : Int64) (K : Nat → Int) (V : Nat → Int) (SH : Nat → Int) (SL : Nat → Int) (HH : Nat → Int) (HO : Nat → Int) (HL : Nat → Int) (HW : Nat → Int) (i : Nat) (hnh : nh ≤ 5) (hns : ns ≤ 6) (hhd : hd ≤ 6) (hS : ∀ x, x < ns → 0 ≤ SH x ∧ SH x ≤ 9 ∧ 0 ≤ SL x ∧ SL x ≤ 9) (hK : ∀ x, x < 5 → 0 ≤ K x ∧ K x ≤ 4) (hV : ∀ x, x < 5 → 0 ≤ V x ∧ V x ≤ 9) (hH : ∀ x, x < hd → 0 ≤ HH x ∧ HH x < 5 ∧ 0 ≤ HO x ∧ HO x ≤ 11 ∧ 1 ≤ HL x ∧ HL x ≤ 9 ∧ 0 ≤ HW x ∧ HW x ≤ 2) (hi : i < 12) : jMW (S := (Nat → Int) × (Nat → Int)) lau yX6_askNow wsX6_askNow rmX6_askNow D cI cB [.ref g, .int (jI ((i : Nat) : Int))] [oM g co ((nh : Nat) : Int) qk qv ((ns : Nat) : Int) qh ql ch ((hd : Nat) : Int) q9 q10 q11 q12 ((pl : Nat) : Int) qp iw nw nz ((0 : Nat) : Int) sd qs ik kc ((ks : Nat) : Int) kg ((kh : Nat) : Int) k26 k27 k28 k29 k30 k31 k32 hx, aI cI qk 5 K, aI cI qv 5 V, aI cI qh 7 SH, aI cI ql 7 SL, aI cI q9 6 HH, aI cI q10 6 HO, aI cI q11 6 HL, aI cI q12 6 HW] (fun u => some (.int (jI (sp_askv K V (sp_sum SH SL (ns + 0)) nh (sp_hrs K V (sp_sum SH SL (ns + 0)) HH HO HL HW hd) hd (HL (hd - 1)) i)))) (fun u => (∀ j, j < ns → u.1 j = SH j) ∧ (∀ j, j < ns → u.2 j = SL j)) (fun u => [oM g co ((nh : Nat) : Int) qk qv ((ns : Nat) : Int) qh ql ch ((hd : Nat) : Int) q9 q10 q11 q12 ((pl : Nat) : Int) qp iw nw nz ((0 : Nat) : Int) sd qs ik kc ((ks : Nat) : Int) kg ((kh : Nat) : Int) k26 k27 k28 k29 k30 k31 k32 hx, aI cI qk 5 K, aI cI qv 5 V, aI cI qh 7 u.1, aI cI ql 7 u.2, aI cI q9 6 HH, aI cI q10 6 HO, aI cI q11 6 HL, aI cI q12 6 HW]) := by
  refine jMW.of (own := RX6) (cc := cX6_askNow) (maxL := 7) (ret := (some .int)) rfl (by decide) rfl (Nat.le_of_ble_eq_true rfl) ?_
  intro X C E
  refine jw_lv (lv' := [(0, .ref g), (1, .int (jI ((i : Nat) : Int)))]) [0, 1] rfl ?_
  have hhb := sp_hrs_b K V (sp_sum SH SL (ns + 0)) HH HO HL HW hd
  refine jw_aload_n (pc := 0) C dX6_askNow_0 0 rfl ?_
  refine jw_get (pc := 1) C hi_X6_askNow_X6 0 rfl rfl 8 (by decide) fl_X6_askNow_106 rfl rfl dX6_askNow_1 ?_
  refine jw_if_ne (pc := 4) (tgt := 11) C dX6_askNow_4 (by decide) (by omega) (fun c_4 => ?_) (fun c_4 => ?_)
  · -- 4 t
    refine jw_aload_n (pc := 11) C dX6_askNow_11 0 rfl ?_
    refine jw_callWV (pc := 12) C [] [] 0 (con_X6_hoursNow lau D cI cB g co nh qk qv ns qh ql ch hd q9 q10 q11 q12 pl qp iw nw nz sd qs ik kc ks kg kh k26 k27 k28 k29 k30 k31 k32 hx K V SH SL HH HO HL HW (by omega) (by omega) (by omega) hS hK hV hH) gX6_askNow_X6_hoursNow rfl rfl rfl (by decide +kernel) ⟨Nat.le_of_ble_eq_true rfl, Nat.le_of_ble_eq_true rfl⟩ 0 rfl rfl [0, 1, 2, 3, 4, 5, 6, 7, 8] [] [0, 1, 2, 3, 4, 5, 6, 7, 8] (wr := []) rfl rfl (by decide) (by decide) (fun _ => rfl) (wN := fun u_12_1 => [oM g co ((nh : Nat) : Int) qk qv ((ns : Nat) : Int) qh ql ch ((hd : Nat) : Int) q9 q10 q11 q12 ((pl : Nat) : Int) qp iw nw nz ((0 : Nat) : Int) sd qs ik kc ((ks : Nat) : Int) kg ((kh : Nat) : Int) k26 k27 k28 k29 k30 k31 k32 hx, aI cI qk 5 K, aI cI qv 5 V, aI cI qh 7 u_12_1.1, aI cI ql 7 u_12_1.2, aI cI q9 6 HH, aI cI q10 6 HO, aI cI q11 6 HL, aI cI q12 6 HW]) (fun _ => rfl) (stN := fun u_12_1 => [.int (jI ((sp_hrs K V (sp_sum SH SL (ns + 0)) HH HO HL HW hd : Nat) : Int))]) (fun _ => rfl) rfl (Nat.le_of_ble_eq_true rfl) rfl dX6_askNow_12 (fun u_12_1 hu_12_1 => ?_)
    (try dsimp only at hu_12_1)
    have hpost := hu_12_1
    refine jw_istore_n (pc := 15) (lv' := [(2, .int (jI ((sp_hrs K V (sp_sum SH SL (ns + 0)) HH HO HL HW hd : Nat) : Int))), (0, .ref g), (1, .int (jI ((i : Nat) : Int)))]) C dX6_askNow_15 (by decide) rfl ?_
    refine jw_iconst (pc := 16) C dX6_askNow_16 ?_
    refine jw_istore_n (pc := 17) (lv' := [(3, .int (jI (-1))), (2, .int (jI ((sp_hrs K V (sp_sum SH SL (ns + 0)) HH HO HL HW hd : Nat) : Int))), (0, .ref g), (1, .int (jI ((i : Nat) : Int)))]) C dX6_askNow_17 (by decide) rfl ?_
    refine jw_ldc (z := 268435456) (pc := 18) C dX6_askNow_18 cn_X6_askNow_176 (by decide +kernel) ?_
    refine jw_istore (pc := 20) (lv' := [(4, .int (jI 268435456)), (3, .int (jI (-1))), (2, .int (jI ((sp_hrs K V (sp_sum SH SL (ns + 0)) HH HO HL HW hd : Nat) : Int))), (0, .ref g), (1, .int (jI ((i : Nat) : Int)))]) C dX6_askNow_20 (by decide) rfl ?_
    refine jw_iconst (pc := 22) C dX6_askNow_22 ?_
    refine jw_istore (pc := 23) (lv' := [(5, .int (jI 0)), (4, .int (jI 268435456)), (3, .int (jI (-1))), (2, .int (jI ((sp_hrs K V (sp_sum SH SL (ns + 0)) HH HO HL HW hd : Nat) : Int))), (0, .ref g), (1, .int (jI ((i : Nat) : Int)))]) C dX6_askNow_23 (by decide) rfl ?_
    have lp_25_2 : ∀ (fu : Nat) (x : Nat) (fw : Nat) (bb : Int) (c : Nat → Int) (d : Nat → Int), (x ≤ nh) → (fw = sp_af 268435456 (sp_wr K V (sp_sum SH SL (ns + 0)) (sp_hrs K V (sp_sum SH SL (ns + 0)) HH HO HL HW hd) (HL (hd - 1)) i) x) → (fw ≤ 268435456) → (bb = sp_ab 268435456 (sp_wr K V (sp_sum SH SL (ns + 0)) (sp_hrs K V (sp_sum SH SL (ns + 0)) HH HO HL HW hd) (HL (hd - 1)) i) x) → (x = 0 ∨ (0 < hd ∧ ¬ sp_hrs K V (sp_sum SH SL (ns + 0)) HH HO HL HW hd = 0)) → (∀ j, j < ns → c j = SH j) → (∀ j, j < ns → d j = SL j) → nh - x < fu → jW X 25 [(0, .ref g), (1, .int (jI ((i : Nat) : Int))), (2, .int (jI ((sp_hrs K V (sp_sum SH SL (ns + 0)) HH HO HL HW hd : Nat) : Int))), (3, .int (jI bb)), (4, .int (jI ((fw : Nat) : Int))), (5, .int (jI ((x : Nat) : Int)))] [] [oM g co ((nh : Nat) : Int) qk qv ((ns : Nat) : Int) qh ql ch ((hd : Nat) : Int) q9 q10 q11 q12 ((pl : Nat) : Int) qp iw nw nz ((0 : Nat) : Int) sd qs ik kc ((ks : Nat) : Int) kg ((kh : Nat) : Int) k26 k27 k28 k29 k30 k31 k32 hx, aI cI qk 5 K, aI cI qv 5 V, aI cI qh 7 c, aI cI ql 7 d, aI cI q9 6 HH, aI cI q10 6 HO, aI cI q11 6 HL, aI cI q12 6 HW] := by
      intro fu
      induction fu with
      | zero => intro x fw bb c d hxn hfw hfb hbb hx0 hc hdl hm; exact absurd hm (Nat.not_lt_zero _)
      | succ fu ih_3 =>
        intro x fw bb c d hxn hfw hfb hbb hx0 hc hdl hm
        refine jw_iload (pc := 25) C dX6_askNow_25 5 rfl ?_
        refine jw_aload_n (pc := 27) C dX6_askNow_27 0 rfl ?_
        refine jw_get (pc := 28) C hi_X6_askNow_X6 0 rfl rfl 1 (by decide) fl_X6_askNow_94 rfl rfl dX6_askNow_28 ?_
        refine jw_icmp_ge (pc := 31) (tgt := 84) C dX6_askNow_31 (by decide) (by omega) (by omega) (fun c_31 => ?_) (fun c_31 => ?_)
        · -- 31 t
          refine jw_iload_n (pc := 84) C dX6_askNow_84 3 rfl ?_
          exact jw_iretW (pc := 85) C E dX6_askNow_85 (((c), (d))) (congrArg (fun z => some (Value.int (jI z))) (sp_ask_end (w := sp_wr K V (sp_sum SH SL (ns + 0)) (sp_hrs K V (sp_sum SH SL (ns + 0)) HH HO HL HW hd) (HL (hd - 1)) i) (fun y => sp_worst_b _ _ _ _ _ _) hbb hx0 (by omega))) (by first | exact ⟨hc, hdl⟩ | exact hpost | exact ⟨fun _ _ => rfl, fun _ _ => rfl⟩) rfl
        · -- 31 f
          refine jw_iload_n (pc := 34) C dX6_askNow_34 2 rfl ?_
          refine jw_if_eq (pc := 35) (tgt := 84) C dX6_askNow_35 (by decide) (by omega) (fun c_35 => ?_) (fun c_35 => ?_)
          · -- 35 t
            refine jw_iload_n (pc := 84) C dX6_askNow_84 3 rfl ?_
            exact jw_iretW (pc := 85) C E dX6_askNow_85 (((c), (d))) (congrArg (fun z => some (Value.int (jI z))) (sp_ask_end (w := sp_wr K V (sp_sum SH SL (ns + 0)) (sp_hrs K V (sp_sum SH SL (ns + 0)) HH HO HL HW hd) (HL (hd - 1)) i) (fun y => sp_worst_b _ _ _ _ _ _) hbb hx0 (by omega))) (by first | exact ⟨hc, hdl⟩ | exact hpost | exact ⟨fun _ _ => rfl, fun _ _ => rfl⟩) rfl
          · -- 35 f
            have eR : sp_sum c d (ns + 0) = (sp_sum SH SL (ns + 0)) := sp_sum_congr hc hdl
            refine jw_aload_n (pc := 38) C dX6_askNow_38 0 rfl ?_
            refine jw_iload_n (pc := 39) C dX6_askNow_39 2 rfl ?_
            refine jw_iload (pc := 40) C dX6_askNow_40 5 rfl ?_
            refine jw_iload_n (pc := 42) C dX6_askNow_42 1 rfl ?_
            refine jw_callWV (pc := 43) C [.int (jI (((sp_hrs K V (sp_sum SH SL (ns + 0)) HH HO HL HW hd) : Nat) : Int)), .int (jI ((x : Nat) : Int)), .int (jI ((i : Nat) : Int))] [] 3 (con_X6_worstIn lau D cI cB g co nh qk qv ns qh ql ch hd q9 q10 q11 q12 pl qp iw nw nz sd qs ik kc ks kg kh k26 k27 k28 k29 k30 k31 k32 hx K V c d HL (sp_hrs K V (sp_sum SH SL (ns + 0)) HH HO HL HW hd) x i (by omega) (by omega) (by omega) (by have := hH (hd - 1) (by omega); omega) (sp_bcd hS hc hdl) hK hV (by omega) (by omega) (by omega)) gX6_askNow_X6_worstIn rfl rfl rfl (by decide +kernel) ⟨Nat.le_of_ble_eq_true rfl, Nat.le_of_ble_eq_true rfl⟩ 0 rfl rfl [0, 1, 2, 3, 4, 7] [5, 6, 8] [3, 4, 5, 6, 7, 0, 1, 8, 2] (wr := [aI cI q9 6 HH, aI cI q10 6 HO, aI cI q12 6 HW]) rfl rfl (by decide) (by decide) (fun _ => rfl) (wN := fun u_43_4 => [oM g co ((nh : Nat) : Int) qk qv ((ns : Nat) : Int) qh ql ch ((hd : Nat) : Int) q9 q10 q11 q12 ((pl : Nat) : Int) qp iw nw nz ((0 : Nat) : Int) sd qs ik kc ((ks : Nat) : Int) kg ((kh : Nat) : Int) k26 k27 k28 k29 k30 k31 k32 hx, aI cI qk 5 K, aI cI qv 5 V, aI cI qh 7 u_43_4.1, aI cI ql 7 u_43_4.2, aI cI q9 6 HH, aI cI q10 6 HO, aI cI q11 6 HL, aI cI q12 6 HW]) (fun _ => rfl) (stN := fun u_43_4 => [.int (jI ((sp_worst (K x) (V x) (sp_sum c d (ns + 0)) (sp_hrs K V (sp_sum SH SL (ns + 0)) HH HO HL HW hd) (HL (hd - 1)) i : Nat) : Int))]) (fun _ => rfl) rfl (Nat.le_of_ble_eq_true rfl) rfl dX6_askNow_43 (fun u_43_4 hu_43_4 => ?_)
            (try dsimp only at hu_43_4)
            have b_43_0 := sp_worst_b (K x) (V x) (sp_sum c d (ns + 0)) (sp_hrs K V (sp_sum SH SL (ns + 0)) HH HO HL HW hd) (HL (hd - 1)) i
            have hpost := hu_43_4
            refine jw_top (y := jI ((sp_worst (K x) (V x) (sp_sum SH SL (ns + 0)) (sp_hrs K V (sp_sum SH SL (ns + 0)) HH HO HL HW hd) (HL (hd - 1)) i : Nat) : Int)) (congrArg jI (by rw [eR])) ?_
            rw [eR] at b_43_0
            refine jw_istore (pc := 46) (lv' := [(6, .int (jI ((sp_worst (K x) (V x) (sp_sum SH SL (ns + 0)) (sp_hrs K V (sp_sum SH SL (ns + 0)) HH HO HL HW hd) (HL (hd - 1)) i : Nat) : Int))), (0, .ref g), (1, .int (jI ((i : Nat) : Int))), (2, .int (jI ((sp_hrs K V (sp_sum SH SL (ns + 0)) HH HO HL HW hd : Nat) : Int))), (3, .int (jI bb)), (4, .int (jI ((fw : Nat) : Int))), (5, .int (jI ((x : Nat) : Int)))]) C dX6_askNow_46 (by decide) rfl ?_
            refine jw_iload (pc := 48) C dX6_askNow_48 0 rfl ?_
            refine jw_iload (pc := 50) C dX6_askNow_50 5 rfl ?_
            refine jw_icmp_ge (pc := 52) (tgt := 60) C dX6_askNow_52 (by decide) (by omega) (by omega) (fun c_52 => ?_) (fun c_52 => ?_)
            · -- 52 t
              refine jw_iload_n (pc := 60) C dX6_askNow_60 4 rfl ?_
              refine jw_istore_n (pc := 61) (lv' := [(3, .int (jI bb)), (6, .int (jI ((sp_worst (K x) (V x) (sp_sum SH SL (ns + 0)) (sp_hrs K V (sp_sum SH SL (ns + 0)) HH HO HL HW hd) (HL (hd - 1)) i : Nat) : Int))), (0, .ref g), (1, .int (jI ((i : Nat) : Int))), (2, .int (jI ((sp_hrs K V (sp_sum SH SL (ns + 0)) HH HO HL HW hd : Nat) : Int))), (4, .int (jI ((fw : Nat) : Int))), (5, .int (jI ((x : Nat) : Int)))]) C dX6_askNow_61 (by decide) rfl ?_
              refine jw_iload (pc := 62) C dX6_askNow_62 1 rfl ?_
              refine jw_iload (pc := 64) C dX6_askNow_64 5 rfl ?_
              refine jw_icmp_ge (pc := 66) (tgt := 74) C dX6_askNow_66 (by decide) (by omega) (by omega) (fun c_66 => ?_) (fun c_66 => ?_)
              · -- 66 t
                refine jw_iload (pc := 74) C dX6_askNow_74 5 rfl ?_
                refine jw_istore (pc := 76) (lv' := [(4, .int (jI ((fw : Nat) : Int))), (3, .int (jI bb)), (6, .int (jI ((sp_worst (K x) (V x) (sp_sum SH SL (ns + 0)) (sp_hrs K V (sp_sum SH SL (ns + 0)) HH HO HL HW hd) (HL (hd - 1)) i : Nat) : Int))), (0, .ref g), (1, .int (jI ((i : Nat) : Int))), (2, .int (jI ((sp_hrs K V (sp_sum SH SL (ns + 0)) HH HO HL HW hd : Nat) : Int))), (5, .int (jI ((x : Nat) : Int)))]) C dX6_askNow_76 (by decide) rfl ?_
                refine jw_iinc (pc := 78) (z := ((x + 1 : Nat) : Int)) (lv' := [(5, .int (jI ((x + 1 : Nat) : Int))), (4, .int (jI ((fw : Nat) : Int))), (3, .int (jI bb)), (6, .int (jI ((sp_worst (K x) (V x) (sp_sum SH SL (ns + 0)) (sp_hrs K V (sp_sum SH SL (ns + 0)) HH HO HL HW hd) (HL (hd - 1)) i : Nat) : Int))), (0, .ref g), (1, .int (jI ((i : Nat) : Int))), (2, .int (jI ((sp_hrs K V (sp_sum SH SL (ns + 0)) HH HO HL HW hd : Nat) : Int)))]) C dX6_askNow_78 6 rfl (by omega) (by decide) rfl ?_
                refine jw_goto (pc := 81) (tgt := 25) C dX6_askNow_81 (by decide) ?_
                refine jw_lv [4, 5, 6, 2, 1, 0] rfl ?_
                exact ih_3 (x + 1) fw bb u_43_4.1 u_43_4.2 (by omega) (by show _ = (if sp_worst (K x) (V x) (sp_sum SH SL (ns + 0)) (sp_hrs K V (sp_sum SH SL (ns + 0)) HH HO HL HW hd) (HL (hd - 1)) i < sp_af 268435456 (sp_wr K V (sp_sum SH SL (ns + 0)) (sp_hrs K V (sp_sum SH SL (ns + 0)) HH HO HL HW hd) (HL (hd - 1)) i) x then sp_worst (K x) (V x) (sp_sum SH SL (ns + 0)) (sp_hrs K V (sp_sum SH SL (ns + 0)) HH HO HL HW hd) (HL (hd - 1)) i else sp_af 268435456 (sp_wr K V (sp_sum SH SL (ns + 0)) (sp_hrs K V (sp_sum SH SL (ns + 0)) HH HO HL HW hd) (HL (hd - 1)) i) x); rw [← hfw]; split <;> omega) (by omega) (by show _ = (if sp_worst (K x) (V x) (sp_sum SH SL (ns + 0)) (sp_hrs K V (sp_sum SH SL (ns + 0)) HH HO HL HW hd) (HL (hd - 1)) i < sp_af 268435456 (sp_wr K V (sp_sum SH SL (ns + 0)) (sp_hrs K V (sp_sum SH SL (ns + 0)) HH HO HL HW hd) (HL (hd - 1)) i) x then ((x : Nat) : Int) else sp_ab 268435456 (sp_wr K V (sp_sum SH SL (ns + 0)) (sp_hrs K V (sp_sum SH SL (ns + 0)) HH HO HL HW hd) (HL (hd - 1)) i) x); rw [← hfw, ← hbb]; split <;> omega) (by omega) (fun j hj => (hpost.1 j hj).trans (hc j hj)) (fun j hj => (hpost.2 j hj).trans (hdl j hj)) (by omega)
              · -- 66 f
                refine jw_iload (pc := 69) C dX6_askNow_69 1 rfl ?_
                refine jw_goto (pc := 71) (tgt := 76) C dX6_askNow_71 (by decide) ?_
                refine jw_istore (pc := 76) (lv' := [(4, .int (jI ((sp_worst (K x) (V x) (sp_sum SH SL (ns + 0)) (sp_hrs K V (sp_sum SH SL (ns + 0)) HH HO HL HW hd) (HL (hd - 1)) i : Nat) : Int))), (3, .int (jI bb)), (6, .int (jI ((sp_worst (K x) (V x) (sp_sum SH SL (ns + 0)) (sp_hrs K V (sp_sum SH SL (ns + 0)) HH HO HL HW hd) (HL (hd - 1)) i : Nat) : Int))), (0, .ref g), (1, .int (jI ((i : Nat) : Int))), (2, .int (jI ((sp_hrs K V (sp_sum SH SL (ns + 0)) HH HO HL HW hd : Nat) : Int))), (5, .int (jI ((x : Nat) : Int)))]) C dX6_askNow_76 (by decide) rfl ?_
                refine jw_iinc (pc := 78) (z := ((x + 1 : Nat) : Int)) (lv' := [(5, .int (jI ((x + 1 : Nat) : Int))), (4, .int (jI ((sp_worst (K x) (V x) (sp_sum SH SL (ns + 0)) (sp_hrs K V (sp_sum SH SL (ns + 0)) HH HO HL HW hd) (HL (hd - 1)) i : Nat) : Int))), (3, .int (jI bb)), (6, .int (jI ((sp_worst (K x) (V x) (sp_sum SH SL (ns + 0)) (sp_hrs K V (sp_sum SH SL (ns + 0)) HH HO HL HW hd) (HL (hd - 1)) i : Nat) : Int))), (0, .ref g), (1, .int (jI ((i : Nat) : Int))), (2, .int (jI ((sp_hrs K V (sp_sum SH SL (ns + 0)) HH HO HL HW hd : Nat) : Int)))]) C dX6_askNow_78 6 rfl (by omega) (by decide) rfl ?_
                refine jw_goto (pc := 81) (tgt := 25) C dX6_askNow_81 (by decide) ?_
                refine jw_lv [4, 5, 6, 2, 1, 0] rfl ?_
                exact ih_3 (x + 1) (sp_worst (K x) (V x) (sp_sum SH SL (ns + 0)) (sp_hrs K V (sp_sum SH SL (ns + 0)) HH HO HL HW hd) (HL (hd - 1)) i) bb u_43_4.1 u_43_4.2 (by omega) (by show _ = (if sp_worst (K x) (V x) (sp_sum SH SL (ns + 0)) (sp_hrs K V (sp_sum SH SL (ns + 0)) HH HO HL HW hd) (HL (hd - 1)) i < sp_af 268435456 (sp_wr K V (sp_sum SH SL (ns + 0)) (sp_hrs K V (sp_sum SH SL (ns + 0)) HH HO HL HW hd) (HL (hd - 1)) i) x then sp_worst (K x) (V x) (sp_sum SH SL (ns + 0)) (sp_hrs K V (sp_sum SH SL (ns + 0)) HH HO HL HW hd) (HL (hd - 1)) i else sp_af 268435456 (sp_wr K V (sp_sum SH SL (ns + 0)) (sp_hrs K V (sp_sum SH SL (ns + 0)) HH HO HL HW hd) (HL (hd - 1)) i) x); rw [← hfw]; split <;> omega) (by omega) (by show _ = (if sp_worst (K x) (V x) (sp_sum SH SL (ns + 0)) (sp_hrs K V (sp_sum SH SL (ns + 0)) HH HO HL HW hd) (HL (hd - 1)) i < sp_af 268435456 (sp_wr K V (sp_sum SH SL (ns + 0)) (sp_hrs K V (sp_sum SH SL (ns + 0)) HH HO HL HW hd) (HL (hd - 1)) i) x then ((x : Nat) : Int) else sp_ab 268435456 (sp_wr K V (sp_sum SH SL (ns + 0)) (sp_hrs K V (sp_sum SH SL (ns + 0)) HH HO HL HW hd) (HL (hd - 1)) i) x); rw [← hfw, ← hbb]; split <;> omega) (by omega) (fun j hj => (hpost.1 j hj).trans (hc j hj)) (fun j hj => (hpost.2 j hj).trans (hdl j hj)) (by omega)
            · -- 52 f
              refine jw_iload (pc := 55) C dX6_askNow_55 6 rfl ?_
              refine jw_goto (pc := 57) (tgt := 61) C dX6_askNow_57 (by decide) ?_
              refine jw_istore_n (pc := 61) (lv' := [(3, .int (jI ((x : Nat) : Int))), (6, .int (jI ((sp_worst (K x) (V x) (sp_sum SH SL (ns + 0)) (sp_hrs K V (sp_sum SH SL (ns + 0)) HH HO HL HW hd) (HL (hd - 1)) i : Nat) : Int))), (0, .ref g), (1, .int (jI ((i : Nat) : Int))), (2, .int (jI ((sp_hrs K V (sp_sum SH SL (ns + 0)) HH HO HL HW hd : Nat) : Int))), (4, .int (jI ((fw : Nat) : Int))), (5, .int (jI ((x : Nat) : Int)))]) C dX6_askNow_61 (by decide) rfl ?_
              refine jw_iload (pc := 62) C dX6_askNow_62 1 rfl ?_
              refine jw_iload (pc := 64) C dX6_askNow_64 5 rfl ?_
              refine jw_icmp_ge (pc := 66) (tgt := 74) C dX6_askNow_66 (by decide) (by omega) (by omega) (fun c_66 => ?_) (fun c_66 => ?_)
              · -- 66 t
                refine jw_iload (pc := 74) C dX6_askNow_74 5 rfl ?_
                refine jw_istore (pc := 76) (lv' := [(4, .int (jI ((fw : Nat) : Int))), (3, .int (jI ((x : Nat) : Int))), (6, .int (jI ((sp_worst (K x) (V x) (sp_sum SH SL (ns + 0)) (sp_hrs K V (sp_sum SH SL (ns + 0)) HH HO HL HW hd) (HL (hd - 1)) i : Nat) : Int))), (0, .ref g), (1, .int (jI ((i : Nat) : Int))), (2, .int (jI ((sp_hrs K V (sp_sum SH SL (ns + 0)) HH HO HL HW hd : Nat) : Int))), (5, .int (jI ((x : Nat) : Int)))]) C dX6_askNow_76 (by decide) rfl ?_
                refine jw_iinc (pc := 78) (z := ((x + 1 : Nat) : Int)) (lv' := [(5, .int (jI ((x + 1 : Nat) : Int))), (4, .int (jI ((fw : Nat) : Int))), (3, .int (jI ((x : Nat) : Int))), (6, .int (jI ((sp_worst (K x) (V x) (sp_sum SH SL (ns + 0)) (sp_hrs K V (sp_sum SH SL (ns + 0)) HH HO HL HW hd) (HL (hd - 1)) i : Nat) : Int))), (0, .ref g), (1, .int (jI ((i : Nat) : Int))), (2, .int (jI ((sp_hrs K V (sp_sum SH SL (ns + 0)) HH HO HL HW hd : Nat) : Int)))]) C dX6_askNow_78 6 rfl (by omega) (by decide) rfl ?_
                refine jw_goto (pc := 81) (tgt := 25) C dX6_askNow_81 (by decide) ?_
                refine jw_lv [4, 5, 6, 2, 1, 0] rfl ?_
                exact ih_3 (x + 1) fw (((x : Nat) : Int)) u_43_4.1 u_43_4.2 (by omega) (by show _ = (if sp_worst (K x) (V x) (sp_sum SH SL (ns + 0)) (sp_hrs K V (sp_sum SH SL (ns + 0)) HH HO HL HW hd) (HL (hd - 1)) i < sp_af 268435456 (sp_wr K V (sp_sum SH SL (ns + 0)) (sp_hrs K V (sp_sum SH SL (ns + 0)) HH HO HL HW hd) (HL (hd - 1)) i) x then sp_worst (K x) (V x) (sp_sum SH SL (ns + 0)) (sp_hrs K V (sp_sum SH SL (ns + 0)) HH HO HL HW hd) (HL (hd - 1)) i else sp_af 268435456 (sp_wr K V (sp_sum SH SL (ns + 0)) (sp_hrs K V (sp_sum SH SL (ns + 0)) HH HO HL HW hd) (HL (hd - 1)) i) x); rw [← hfw]; split <;> omega) (by omega) (by show _ = (if sp_worst (K x) (V x) (sp_sum SH SL (ns + 0)) (sp_hrs K V (sp_sum SH SL (ns + 0)) HH HO HL HW hd) (HL (hd - 1)) i < sp_af 268435456 (sp_wr K V (sp_sum SH SL (ns + 0)) (sp_hrs K V (sp_sum SH SL (ns + 0)) HH HO HL HW hd) (HL (hd - 1)) i) x then ((x : Nat) : Int) else sp_ab 268435456 (sp_wr K V (sp_sum SH SL (ns + 0)) (sp_hrs K V (sp_sum SH SL (ns + 0)) HH HO HL HW hd) (HL (hd - 1)) i) x); rw [← hfw, ← hbb]; split <;> omega) (by omega) (fun j hj => (hpost.1 j hj).trans (hc j hj)) (fun j hj => (hpost.2 j hj).trans (hdl j hj)) (by omega)
              · -- 66 f
                refine jw_iload (pc := 69) C dX6_askNow_69 1 rfl ?_
                refine jw_goto (pc := 71) (tgt := 76) C dX6_askNow_71 (by decide) ?_
                refine jw_istore (pc := 76) (lv' := [(4, .int (jI ((sp_worst (K x) (V x) (sp_sum SH SL (ns + 0)) (sp_hrs K V (sp_sum SH SL (ns + 0)) HH HO HL HW hd) (HL (hd - 1)) i : Nat) : Int))), (3, .int (jI ((x : Nat) : Int))), (6, .int (jI ((sp_worst (K x) (V x) (sp_sum SH SL (ns + 0)) (sp_hrs K V (sp_sum SH SL (ns + 0)) HH HO HL HW hd) (HL (hd - 1)) i : Nat) : Int))), (0, .ref g), (1, .int (jI ((i : Nat) : Int))), (2, .int (jI ((sp_hrs K V (sp_sum SH SL (ns + 0)) HH HO HL HW hd : Nat) : Int))), (5, .int (jI ((x : Nat) : Int)))]) C dX6_askNow_76 (by decide) rfl ?_
                refine jw_iinc (pc := 78) (z := ((x + 1 : Nat) : Int)) (lv' := [(5, .int (jI ((x + 1 : Nat) : Int))), (4, .int (jI ((sp_worst (K x) (V x) (sp_sum SH SL (ns + 0)) (sp_hrs K V (sp_sum SH SL (ns + 0)) HH HO HL HW hd) (HL (hd - 1)) i : Nat) : Int))), (3, .int (jI ((x : Nat) : Int))), (6, .int (jI ((sp_worst (K x) (V x) (sp_sum SH SL (ns + 0)) (sp_hrs K V (sp_sum SH SL (ns + 0)) HH HO HL HW hd) (HL (hd - 1)) i : Nat) : Int))), (0, .ref g), (1, .int (jI ((i : Nat) : Int))), (2, .int (jI ((sp_hrs K V (sp_sum SH SL (ns + 0)) HH HO HL HW hd : Nat) : Int)))]) C dX6_askNow_78 6 rfl (by omega) (by decide) rfl ?_
                refine jw_goto (pc := 81) (tgt := 25) C dX6_askNow_81 (by decide) ?_
                refine jw_lv [4, 5, 6, 2, 1, 0] rfl ?_
                exact ih_3 (x + 1) (sp_worst (K x) (V x) (sp_sum SH SL (ns + 0)) (sp_hrs K V (sp_sum SH SL (ns + 0)) HH HO HL HW hd) (HL (hd - 1)) i) (((x : Nat) : Int)) u_43_4.1 u_43_4.2 (by omega) (by show _ = (if sp_worst (K x) (V x) (sp_sum SH SL (ns + 0)) (sp_hrs K V (sp_sum SH SL (ns + 0)) HH HO HL HW hd) (HL (hd - 1)) i < sp_af 268435456 (sp_wr K V (sp_sum SH SL (ns + 0)) (sp_hrs K V (sp_sum SH SL (ns + 0)) HH HO HL HW hd) (HL (hd - 1)) i) x then sp_worst (K x) (V x) (sp_sum SH SL (ns + 0)) (sp_hrs K V (sp_sum SH SL (ns + 0)) HH HO HL HW hd) (HL (hd - 1)) i else sp_af 268435456 (sp_wr K V (sp_sum SH SL (ns + 0)) (sp_hrs K V (sp_sum SH SL (ns + 0)) HH HO HL HW hd) (HL (hd - 1)) i) x); rw [← hfw]; split <;> omega) (by omega) (by show _ = (if sp_worst (K x) (V x) (sp_sum SH SL (ns + 0)) (sp_hrs K V (sp_sum SH SL (ns + 0)) HH HO HL HW hd) (HL (hd - 1)) i < sp_af 268435456 (sp_wr K V (sp_sum SH SL (ns + 0)) (sp_hrs K V (sp_sum SH SL (ns + 0)) HH HO HL HW hd) (HL (hd - 1)) i) x then ((x : Nat) : Int) else sp_ab 268435456 (sp_wr K V (sp_sum SH SL (ns + 0)) (sp_hrs K V (sp_sum SH SL (ns + 0)) HH HO HL HW hd) (HL (hd - 1)) i) x); rw [← hfw, ← hbb]; split <;> omega) (by omega) (fun j hj => (hpost.1 j hj).trans (hc j hj)) (fun j hj => (hpost.2 j hj).trans (hdl j hj)) (by omega)
    refine jw_lv [4, 5, 3, 2, 1, 0] rfl ?_
    exact lp_25_2 ((nh - 0) + 1) 0 268435456 ((-1)) u_12_1.1 u_12_1.2 (by omega) rfl (by omega) rfl (by omega) (by first | exact (fun _ _ => rfl) | exact hpost.1) (by first | exact (fun _ _ => rfl) | exact hpost.2) (Nat.lt_succ_self _)
  · -- 4 f
    refine jw_iconst (pc := 7) C dX6_askNow_7 ?_
    refine jw_goto (pc := 8) (tgt := 15) C dX6_askNow_8 (by decide) ?_
    refine jw_istore_n (pc := 15) (lv' := [(2, .int (jI 0)), (0, .ref g), (1, .int (jI ((i : Nat) : Int)))]) C dX6_askNow_15 (by decide) rfl ?_
    refine jw_iconst (pc := 16) C dX6_askNow_16 ?_
    refine jw_istore_n (pc := 17) (lv' := [(3, .int (jI (-1))), (2, .int (jI 0)), (0, .ref g), (1, .int (jI ((i : Nat) : Int)))]) C dX6_askNow_17 (by decide) rfl ?_
    refine jw_ldc (z := 268435456) (pc := 18) C dX6_askNow_18 cn_X6_askNow_176 (by decide +kernel) ?_
    refine jw_istore (pc := 20) (lv' := [(4, .int (jI 268435456)), (3, .int (jI (-1))), (2, .int (jI 0)), (0, .ref g), (1, .int (jI ((i : Nat) : Int)))]) C dX6_askNow_20 (by decide) rfl ?_
    refine jw_iconst (pc := 22) C dX6_askNow_22 ?_
    refine jw_istore (pc := 23) (lv' := [(5, .int (jI 0)), (4, .int (jI 268435456)), (3, .int (jI (-1))), (2, .int (jI 0)), (0, .ref g), (1, .int (jI ((i : Nat) : Int)))]) C dX6_askNow_23 (by decide) rfl ?_
    have lp_25_5 : ∀ (fu : Nat) (x : Nat) (fw : Nat) (bb : Int) (c : Nat → Int) (d : Nat → Int), (x ≤ nh) → (fw = sp_af 268435456 (sp_wr K V (sp_sum SH SL (ns + 0)) (sp_hrs K V (sp_sum SH SL (ns + 0)) HH HO HL HW hd) (HL (hd - 1)) i) x) → (fw ≤ 268435456) → (bb = sp_ab 268435456 (sp_wr K V (sp_sum SH SL (ns + 0)) (sp_hrs K V (sp_sum SH SL (ns + 0)) HH HO HL HW hd) (HL (hd - 1)) i) x) → (x = 0 ∨ (0 < hd ∧ ¬ sp_hrs K V (sp_sum SH SL (ns + 0)) HH HO HL HW hd = 0)) → (∀ j, j < ns → c j = SH j) → (∀ j, j < ns → d j = SL j) → nh - x < fu → jW X 25 [(0, .ref g), (1, .int (jI ((i : Nat) : Int))), (2, .int (jI 0)), (3, .int (jI bb)), (4, .int (jI ((fw : Nat) : Int))), (5, .int (jI ((x : Nat) : Int)))] [] [oM g co ((nh : Nat) : Int) qk qv ((ns : Nat) : Int) qh ql ch ((hd : Nat) : Int) q9 q10 q11 q12 ((pl : Nat) : Int) qp iw nw nz ((0 : Nat) : Int) sd qs ik kc ((ks : Nat) : Int) kg ((kh : Nat) : Int) k26 k27 k28 k29 k30 k31 k32 hx, aI cI qk 5 K, aI cI qv 5 V, aI cI qh 7 c, aI cI ql 7 d, aI cI q9 6 HH, aI cI q10 6 HO, aI cI q11 6 HL, aI cI q12 6 HW] := by
      intro fu
      induction fu with
      | zero => intro x fw bb c d hxn hfw hfb hbb hx0 hc hdl hm; exact absurd hm (Nat.not_lt_zero _)
      | succ fu ih_6 =>
        intro x fw bb c d hxn hfw hfb hbb hx0 hc hdl hm
        refine jw_iload (pc := 25) C dX6_askNow_25 5 rfl ?_
        refine jw_aload_n (pc := 27) C dX6_askNow_27 0 rfl ?_
        refine jw_get (pc := 28) C hi_X6_askNow_X6 0 rfl rfl 1 (by decide) fl_X6_askNow_94 rfl rfl dX6_askNow_28 ?_
        refine jw_icmp_ge (pc := 31) (tgt := 84) C dX6_askNow_31 (by decide) (by omega) (by omega) (fun c_31 => ?_) (fun c_31 => ?_)
        · -- 31 t
          refine jw_iload_n (pc := 84) C dX6_askNow_84 3 rfl ?_
          exact jw_iretW (pc := 85) C E dX6_askNow_85 (((c), (d))) (congrArg (fun z => some (Value.int (jI z))) (sp_ask_end (w := sp_wr K V (sp_sum SH SL (ns + 0)) (sp_hrs K V (sp_sum SH SL (ns + 0)) HH HO HL HW hd) (HL (hd - 1)) i) (fun y => sp_worst_b _ _ _ _ _ _) hbb hx0 (by omega))) (by first | exact ⟨hc, hdl⟩ | exact hpost | exact ⟨fun _ _ => rfl, fun _ _ => rfl⟩) rfl
        · -- 31 f
          refine jw_iload_n (pc := 34) C dX6_askNow_34 2 rfl ?_
          refine jw_if_eq (pc := 35) (tgt := 84) C dX6_askNow_35 (by decide) (by omega) (fun c_35 => ?_) (fun c_35 => (by exfalso; omega))
          refine jw_iload_n (pc := 84) C dX6_askNow_84 3 rfl ?_
          exact jw_iretW (pc := 85) C E dX6_askNow_85 (((c), (d))) (congrArg (fun z => some (Value.int (jI z))) (sp_ask_end (w := sp_wr K V (sp_sum SH SL (ns + 0)) (sp_hrs K V (sp_sum SH SL (ns + 0)) HH HO HL HW hd) (HL (hd - 1)) i) (fun y => sp_worst_b _ _ _ _ _ _) hbb hx0 (by omega))) (by first | exact ⟨hc, hdl⟩ | exact hpost | exact ⟨fun _ _ => rfl, fun _ _ => rfl⟩) rfl
    refine jw_lv [4, 5, 3, 2, 1, 0] rfl ?_
    exact lp_25_5 ((nh - 0) + 1) 0 268435456 ((-1)) SH SL (by omega) rfl (by omega) rfl (by omega) (by first | exact (fun _ _ => rfl) | exact hpost.1) (by first | exact (fun _ _ => rfl) | exact hpost.2) (Nat.lt_succ_self _)
theorem fl_X6_ask_94 : Cond.fieldLink RX6 94 "GongTideModel" "houses" "I" ∈ wsX6_ask := by decide +kernel
theorem hi_X6_ask_X6 : ∀ w ∈ wsX60, w ∈ wsX6_ask := fun w h => List.mem_cons_of_mem _ (List.mem_append_right _ h)
def rmX6_ask : Room := { frames := 7, cells := 0, slots := 0, locals := 163 }
set_option maxHeartbeats 4000000 in
set_option maxRecDepth 100000 in
theorem con_X6_ask (lau : Launch) (D : va_G) (cI cB : ClassId) (g : Nat) (co : Int) (nh : Nat) (qk : Nat) (qv : Nat) (ns : Nat) (qh : Nat) (ql : Nat) (ch : Int) (hd : Nat) (q9 : Nat) (q10 : Nat) (q11 : Nat) (q12 : Nat) (pl : Nat) (qp : Nat) (iw : Int) (nw : Int) (nz : Int) (sd : Int64) (qs : Nat) (ik : Int) (kc : Int) (ks : Nat) (kg : Int) (kh : Nat) (k26 : Nat) (k27 : Nat) (k28 : Nat) (k29 : Nat) (k30 : Nat) (k31 : Nat) (k32 : Nat) (hx : Int64) (K : Nat → Int) (V : Nat → Int) (SH : Nat → Int) (SL : Nat → Int) (HH : Nat → Int) (HO : Nat → Int) (HL : Nat → Int) (HW : Nat → Int) (z : Int) (hnh : nh ≤ 5) (hns : ns ≤ 6) (hhd : hd ≤ 6) (hS : ∀ x, x < ns → 0 ≤ SH x ∧ SH x ≤ 9 ∧ 0 ≤ SL x ∧ SL x ≤ 9) (hK : ∀ x, x < 5 → 0 ≤ K x ∧ K x ≤ 4) (hV : ∀ x, x < 5 → 0 ≤ V x ∧ V x ≤ 9) (hH : ∀ x, x < hd → 0 ≤ HH x ∧ HH x < 5 ∧ 0 ≤ HO x ∧ HO x ≤ 11 ∧ 1 ≤ HL x ∧ HL x ≤ 9 ∧ 0 ≤ HW x ∧ HW x ≤ 2) (hz : -2147483648 ≤ z ∧ z < 2147483648) : jMW (S := (Nat → Int) × (Nat → Int)) lau yX6_ask wsX6_ask rmX6_ask D cI cB [.ref g, .int (jI z)] [oM g co ((nh : Nat) : Int) qk qv ((ns : Nat) : Int) qh ql ch ((hd : Nat) : Int) q9 q10 q11 q12 ((pl : Nat) : Int) qp iw nw nz ((0 : Nat) : Int) sd qs ik kc ((ks : Nat) : Int) kg ((kh : Nat) : Int) k26 k27 k28 k29 k30 k31 k32 hx, aI cI qk 5 K, aI cI qv 5 V, aI cI qh 7 SH, aI cI ql 7 SL, aI cI q9 6 HH, aI cI q10 6 HO, aI cI q11 6 HL, aI cI q12 6 HW] (fun u => some (.int (jI (sp_ask nh K V (sp_sum SH SL (ns + 0)) HH HO HL HW hd z)))) (fun u => (∀ j, j < ns → u.1 j = SH j) ∧ (∀ j, j < ns → u.2 j = SL j)) (fun u => [oM g co ((nh : Nat) : Int) qk qv ((ns : Nat) : Int) qh ql ch ((hd : Nat) : Int) q9 q10 q11 q12 ((pl : Nat) : Int) qp iw nw nz ((0 : Nat) : Int) sd qs ik kc ((ks : Nat) : Int) kg ((kh : Nat) : Int) k26 k27 k28 k29 k30 k31 k32 hx, aI cI qk 5 K, aI cI qv 5 V, aI cI qh 7 u.1, aI cI ql 7 u.2, aI cI q9 6 HH, aI cI q10 6 HO, aI cI q11 6 HL, aI cI q12 6 HW]) := by
  refine jMW.of (own := RX6) (cc := cX6_ask) (maxL := 2) (ret := (some .int)) rfl (by decide) rfl (Nat.le_of_ble_eq_true rfl) ?_
  intro X C E
  refine jw_lv (lv' := [(0, .ref g), (1, .int (jI z))]) [0, 1] rfl ?_
  refine jw_iload_n (pc := 0) C dX6_ask_0 1 rfl ?_
  refine jw_callRS (pc := 1) C [.int (jI z)] [] 1 (con_X6_isHour lau D cI cB z (by omega)) gX6_ask_X6_isHour rfl rfl rfl (by decide +kernel) ⟨Nat.le_of_ble_eq_true rfl, Nat.le_of_ble_eq_true rfl⟩ [] rfl rfl (Nat.le_of_ble_eq_true rfl) rfl dX6_ask_1 ?_
  refine jw_ifb_ne (pc := 4) (tgt := 10) C dX6_ask_4 (by decide) (fun c_4 => ?_) (fun c_4 => ?_)
  · -- 4 t
    obtain ⟨kz, rfl⟩ : ∃ kz : Nat, z = ((kz : Nat) : Int) := ⟨(z).toNat, by omega⟩
    refine jw_aload_n (pc := 10) C dX6_ask_10 0 rfl ?_
    refine jw_get (pc := 11) C hi_X6_ask_X6 0 rfl rfl 1 (by decide) fl_X6_ask_94 rfl rfl dX6_ask_11 ?_
    refine jw_if_ne (pc := 14) (tgt := 22) C dX6_ask_14 (by decide) (by omega) (fun c_14 => ?_) (fun c_14 => ?_)
    · -- 14 t
      refine jw_aload_n (pc := 22) C dX6_ask_22 0 rfl ?_
      refine jw_iload_n (pc := 23) C dX6_ask_23 1 rfl ?_
      refine jw_callWV (pc := 24) C [.int (jI ((kz : Nat) : Int))] [] 1 (con_X6_askNow lau D cI cB g co nh qk qv ns qh ql ch hd q9 q10 q11 q12 pl qp iw nw nz sd qs ik kc ks kg kh k26 k27 k28 k29 k30 k31 k32 hx K V SH SL HH HO HL HW kz (by omega) (by omega) (by omega) hS hK hV hH (by omega)) gX6_ask_X6_askNow rfl rfl rfl (by decide +kernel) ⟨Nat.le_of_ble_eq_true rfl, Nat.le_of_ble_eq_true rfl⟩ 0 rfl rfl [0, 1, 2, 3, 4, 5, 6, 7, 8] [] [0, 1, 2, 3, 4, 5, 6, 7, 8] (wr := []) rfl rfl (by decide) (by decide) (fun _ => rfl) (wN := fun u_24_1 => [oM g co ((nh : Nat) : Int) qk qv ((ns : Nat) : Int) qh ql ch ((hd : Nat) : Int) q9 q10 q11 q12 ((pl : Nat) : Int) qp iw nw nz ((0 : Nat) : Int) sd qs ik kc ((ks : Nat) : Int) kg ((kh : Nat) : Int) k26 k27 k28 k29 k30 k31 k32 hx, aI cI qk 5 K, aI cI qv 5 V, aI cI qh 7 u_24_1.1, aI cI ql 7 u_24_1.2, aI cI q9 6 HH, aI cI q10 6 HO, aI cI q11 6 HL, aI cI q12 6 HW]) (fun _ => rfl) (stN := fun u_24_1 => [.int (jI (sp_askv K V (sp_sum SH SL (ns + 0)) nh (sp_hrs K V (sp_sum SH SL (ns + 0)) HH HO HL HW hd) hd (HL (hd - 1)) kz))]) (fun _ => rfl) rfl (Nat.le_of_ble_eq_true rfl) rfl dX6_ask_24 (fun u_24_1 hu_24_1 => ?_)
      (try dsimp only at hu_24_1)
      have hpost := hu_24_1
      exact jw_iretW (pc := 27) C E dX6_ask_27 (((u_24_1.1), (u_24_1.2))) (congrArg (fun z => some (Value.int (jI z))) (by unfold sp_ask; (try simp only [Int.toNat_natCast]); first | (rw [if_neg (by omega)]; done) | (rw [if_pos (by omega), if_neg (by omega)]; done) | (rw [if_pos (by omega), if_pos (by omega)]; done))) (by first | exact ⟨hc, hdl⟩ | exact hpost | exact ⟨fun _ _ => rfl, fun _ _ => rfl⟩) rfl
    · -- 14 f
      refine jw_bipush (pc := 17) C dX6_ask_17 (by decide +kernel) ?_
      refine jw_goto (pc := 19) (tgt := 27) C dX6_ask_19 (by decide) ?_
      exact jw_iretW (pc := 27) C E dX6_ask_27 (((SH), (SL))) (congrArg (fun z => some (Value.int (jI z))) (by unfold sp_ask; (try simp only [Int.toNat_natCast]); first | (rw [if_neg (by omega)]; done) | (rw [if_pos (by omega), if_neg (by omega)]; done) | (rw [if_pos (by omega), if_pos (by omega)]; done))) (by first | exact ⟨hc, hdl⟩ | exact hpost | exact ⟨fun _ _ => rfl, fun _ _ => rfl⟩) rfl
  · -- 4 f
    refine jw_bipush (pc := 7) C dX6_ask_7 (by decide +kernel) ?_
    exact jw_iretW (pc := 9) C E dX6_ask_9 (((SH), (SL))) (congrArg (fun z => some (Value.int (jI z))) (by unfold sp_ask; (try simp only [Int.toNat_natCast]); first | (rw [if_neg (by omega)]; done) | (rw [if_pos (by omega), if_neg (by omega)]; done) | (rw [if_pos (by omega), if_pos (by omega)]; done))) (by first | exact ⟨hc, hdl⟩ | exact hpost | exact ⟨fun _ _ => rfl, fun _ _ => rfl⟩) rfl
