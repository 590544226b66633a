theorem fl_X5_best_65 : Cond.fieldLink RX5 65 "GongTide" "houseCount" "I" ∈ wsX5_best := by decide +kernel
theorem hi_X5_best_X5 : ∀ w ∈ wsX50, w ∈ wsX5_best := fun w h => List.mem_cons_of_mem _ (List.mem_append_left _ (List.mem_append_left _ (List.mem_append_left _ (List.mem_append_right _ h))))
def rmX5_best : Room := { frames := 5, cells := 0, slots := 0, locals := 117 }
set_option maxHeartbeats 4000000 in
set_option maxRecDepth 100000 in
theorem con_X5_best (lau : Launch) (D : va_G) (cI cB : ClassId) (g : Nat) (pg : Nat) (ki : Nat) (nh : Nat) (rd : Int) (a : Nat) (kp : Nat) (ik : Int) (no : Nat) (su : Nat) (K : Nat → Int) (le : Nat) (s : Nat) (h : Nat) (ch : Int) (V : Nat → Int) (hr : Nat) (lo : Nat) (n : Nat) (SH : Nat → Int) (SL : Nat → Int) (qn : Nat) (f0 : Nat → Int) (qs : Nat) (g0 : Nat → Int) (l : Int) (w : Int) (hnh : nh ≤ 5) (h2 : n ≤ 6) (hS : ∀ x, x < n → 0 ≤ SH x ∧ SH x ≤ 9 ∧ 0 ≤ SL x ∧ SL x ≤ 9) (hK : ∀ x, x < 5 → 0 ≤ K x ∧ K x ≤ 4) (hV : ∀ x, x < 5 → 0 ≤ V x ∧ V x ≤ 9) (hl : -2147483648 ≤ l ∧ l < 2147483648) (hw : -2147483648 ≤ w ∧ w < 2147483648) : jMW (S := (Nat → Int) × (Nat → Int)) lau yX5_best wsX5_best rmX5_best D cI cB [.ref g, .int (jI l), .int (jI w)] [oG g pg ki ((nh : Nat) : Int) rd a kp ik no su, aI cI ki 5 K, oA a le s h ch, aI cI le 5 V, oS s hr lo ((n : Nat) : Int), aI cI hr 6 SH, aI cI lo 6 SL, oT no qn, aI cI qn 12 f0, oT su qs, aI cI qs 12 g0] (fun u => some (.int (jI (sp_best nh K V (sp_sum SH SL n) l w)))) (fun u => True) (fun u => [oG g pg ki ((nh : Nat) : Int) rd a kp ik no su, aI cI ki 5 K, oA a le s h ch, aI cI le 5 V, oS s hr lo ((n : Nat) : Int), aI cI hr 6 SH, aI cI lo 6 SL, oT no qn, aI cI qn 12 u.1, oT su qs, aI cI qs 12 u.2]) := by
  refine jMW.of (own := RX5) (cc := cX5_best) (maxL := 8) (ret := (some .int)) rfl (by decide) rfl (Nat.le_of_ble_eq_true rfl) ?_
  intro X C E
  refine jw_lv (lv' := [(0, .ref g), (1, .int (jI l)), (2, .int (jI w))]) [0, 1, 2] rfl ?_
  have hR54 := sp_sum_99 (SH := SH) (SL := SL) (n := n) h2 (fun x hx => (hS x hx).2.2)
  have hR99 := sp_99 hR54
  refine jw_iload_n (pc := 0) C dX5_best_0 1 rfl ?_
  refine jw_callRS (pc := 1) C [.int (jI l)] [] 1 (con_X5_isHeardLoud lau D cI cB l (by omega)) gX5_best_X5_isHeardLoud rfl rfl rfl (by decide +kernel) ⟨Nat.le_of_ble_eq_true rfl, Nat.le_of_ble_eq_true rfl⟩ [] rfl rfl (Nat.le_of_ble_eq_true rfl) rfl dX5_best_1 ?_
  refine jw_ifb_eq (pc := 4) (tgt := 16) C dX5_best_4 (by decide) (fun c_4 => ?_) (fun c_4 => ?_)
  · -- 4 t
    refine jw_bipush (pc := 16) C dX5_best_16 (by decide +kernel) ?_
    exact jw_iretW (pc := 18) C E dX5_best_18 (((f0), (g0))) (congrArg (fun z => some (Value.int (jI z))) (by unfold sp_best; (repeat' split) <;> omega)) trivial rfl
  · -- 4 f
    refine jw_iload_n (pc := 7) C dX5_best_7 2 rfl ?_
    refine jw_iconst (pc := 8) C dX5_best_8 ?_
    refine jw_iconst (pc := 9) C dX5_best_9 ?_
    refine jw_callRS (pc := 10) C [.int (jI w), .int (jI 0), .int (jI 1)] [] 3 (con_X5_isWithin lau D cI cB w 0 1 (by omega) (by omega) (by omega)) gX5_best_X5_isWithin rfl rfl rfl (by decide +kernel) ⟨Nat.le_of_ble_eq_true rfl, Nat.le_of_ble_eq_true rfl⟩ [] rfl rfl (Nat.le_of_ble_eq_true rfl) rfl dX5_best_10 ?_
    refine jw_ifb_ne (pc := 13) (tgt := 19) C dX5_best_13 (by decide) (fun c_13 => ?_) (fun c_13 => ?_)
    · -- 13 t
      refine jw_aload_n (pc := 19) C dX5_best_19 0 rfl ?_
      refine jw_callRV (pc := 20) C [] [] 0 (con_X5_hasColony lau D cI cB g pg ki nh rd a kp ik no su (by omega)) gX5_best_X5_hasColony rfl rfl rfl (by decide +kernel) ⟨Nat.le_of_ble_eq_true rfl, Nat.le_of_ble_eq_true rfl⟩ 0 rfl rfl [0] rfl rfl (Nat.le_of_ble_eq_true rfl) rfl dX5_best_20 ?_
      refine jw_ifb_ne (pc := 23) (tgt := 29) C dX5_best_23 (by decide) (fun c_23 => ?_) (fun c_23 => ?_)
      · -- 23 t
        refine jw_aload_n (pc := 29) C dX5_best_29 0 rfl ?_
        refine jw_callWV (pc := 30) C [] [] 0 (con_X5_tideNow lau D cI cB g pg ki nh rd a kp ik no su le s h ch hr lo n SH SL qn f0 (by omega) hS) gX5_best_X5_tideNow rfl rfl rfl (by decide +kernel) ⟨Nat.le_of_ble_eq_true rfl, Nat.le_of_ble_eq_true rfl⟩ 0 rfl rfl [0, 2, 4, 5, 6, 7, 8] [1, 3, 9, 10] [4, 0, 5, 1, 6, 7, 8, 9, 10, 2, 3] (wr := [aI cI ki 5 K, aI cI le 5 V, oT su qs, aI cI qs 12 g0]) rfl rfl (by decide) (by decide) (fun _ => rfl) (wN := fun u_30_1 => [oG g pg ki ((nh : Nat) : Int) rd a kp ik no su, aI cI ki 5 K, oA a le s h ch, aI cI le 5 V, oS s hr lo ((n : Nat) : Int), aI cI hr 6 SH, aI cI lo 6 SL, oT no qn, aI cI qn 12 (sp_sum SH SL n), oT su qs, aI cI qs 12 g0]) (fun _ => rfl) (stN := fun u_30_1 => [.ref no]) (fun _ => rfl) rfl (Nat.le_of_ble_eq_true rfl) rfl dX5_best_30 (fun u_30_1 hu_30_1 => ?_)
        refine jw_astore_n (pc := 33) (lv' := [(3, .ref no), (0, .ref g), (1, .int (jI l)), (2, .int (jI w))]) C dX5_best_33 (by decide) rfl ?_
        refine jw_iconst (pc := 34) C dX5_best_34 ?_
        refine jw_istore (pc := 35) (lv' := [(4, .int (jI (-1))), (3, .ref no), (0, .ref g), (1, .int (jI l)), (2, .int (jI w))]) C dX5_best_35 (by decide) rfl ?_
        refine jw_iconst (pc := 37) C dX5_best_37 ?_
        refine jw_istore (pc := 38) (lv' := [(5, .int (jI (-1))), (4, .int (jI (-1))), (3, .ref no), (0, .ref g), (1, .int (jI l)), (2, .int (jI w))]) C dX5_best_38 (by decide) rfl ?_
        refine jw_iconst (pc := 40) C dX5_best_40 ?_
        refine jw_istore (pc := 41) (lv' := [(6, .int (jI 0)), (5, .int (jI (-1))), (4, .int (jI (-1))), (3, .ref no), (0, .ref g), (1, .int (jI l)), (2, .int (jI w))]) C dX5_best_41 (by decide) rfl ?_
        have lp_43_2 : ∀ (fu : Nat) (aa : Nat) (bh : Int) (bm : Int) (c : Nat → Int), (aa ≤ 10) → (bm = sp_bm K V (sp_sum SH SL n) nh l aa) → (bh = sp_bh K V (sp_sum SH SL n) nh l aa) → (-1 ≤ bm ∧ bm ≤ 60) → 10 - aa < fu → jW X 43 [(0, .ref g), (1, .int (jI l)), (2, .int (jI w)), (3, .ref no), (4, .int (jI bh)), (5, .int (jI bm)), (6, .int (jI ((aa : Nat) : Int)))] [] [oG g pg ki ((nh : Nat) : Int) rd a kp ik no su, aI cI ki 5 K, oA a le s h ch, aI cI le 5 V, oS s hr lo ((n : Nat) : Int), aI cI hr 6 SH, aI cI lo 6 SL, oT no qn, aI cI qn 12 (sp_sum SH SL n), oT su qs, aI cI qs 12 c] := by
          intro fu
          induction fu with
          | zero => intro aa bh bm c haa hbm hbh hbb hm; exact absurd hm (Nat.not_lt_zero _)
          | succ fu ih_3 =>
            intro aa bh bm c haa hbm hbh hbb hm
            refine jw_iload (pc := 43) C dX5_best_43 6 rfl ?_
            refine jw_bipush (pc := 45) C dX5_best_45 (by decide +kernel) ?_
            refine jw_icmp_ge (pc := 47) (tgt := 94) C dX5_best_47 (by decide) (by omega) (by omega) (fun c_47 => ?_) (fun c_47 => ?_)
            · -- 47 t
              rw [show aa = 10 by omega] at hbm hbh
              refine jw_iload_n (pc := 94) C dX5_best_94 2 rfl ?_
              refine jw_if_ne (pc := 95) (tgt := 103) C dX5_best_95 (by decide) (by omega) (fun c_95 => ?_) (fun c_95 => ?_)
              · -- 95 t
                refine jw_iload (pc := 103) C dX5_best_103 5 rfl ?_
                exact jw_iretW (pc := 105) C E dX5_best_105 (((sp_sum SH SL n), (c))) (congrArg (fun z => some (Value.int (jI z))) (by unfold sp_best; (repeat' split) <;> omega)) trivial rfl
              · -- 95 f
                refine jw_iload (pc := 98) C dX5_best_98 4 rfl ?_
                refine jw_goto (pc := 100) (tgt := 105) C dX5_best_100 (by decide) ?_
                exact jw_iretW (pc := 105) C E dX5_best_105 (((sp_sum SH SL n), (c))) (congrArg (fun z => some (Value.int (jI z))) (by unfold sp_best; (repeat' split) <;> omega)) trivial rfl
            · -- 47 f
              refine jw_bipush (pc := 50) C dX5_best_50 (by decide +kernel) ?_
              refine jw_aload_n (pc := 52) C dX5_best_52 0 rfl ?_
              refine jw_get (pc := 53) C hi_X5_best_X5 0 rfl rfl 2 (by decide) fl_X5_best_65 rfl rfl dX5_best_53 ?_
              refine jw_imul (pc := 56) (z := ((12 * nh : Nat) : Int)) C dX5_best_56 (by omega) ?_
              refine jw_aload_n (pc := 57) C dX5_best_57 0 rfl ?_
              refine jw_iconst (pc := 58) C dX5_best_58 ?_
              refine jw_aload_n (pc := 59) C dX5_best_59 0 rfl ?_
              refine jw_aload_n (pc := 60) C dX5_best_60 3 rfl ?_
              refine jw_iload (pc := 61) C dX5_best_61 6 rfl ?_
              refine jw_iload_n (pc := 63) C dX5_best_63 1 rfl ?_
              refine jw_callWV (pc := 64) C [.ref no, .int (jI ((((aa : Nat) : Int)))), .int (jI l)] [.int (jI 0), .ref g, .int (jI ((12 * nh : Nat) : Int))] 3 (con_X5_suppose lau D cI cB g pg ki nh rd a kp ik no su no qn (sp_sum SH SL n) qs c (((aa : Nat) : Int)) l (by omega) (by omega)) gX5_best_X5_suppose rfl rfl rfl (by decide +kernel) ⟨Nat.le_of_ble_eq_true rfl, Nat.le_of_ble_eq_true rfl⟩ 0 rfl rfl [0, 7, 8, 9, 10] [1, 2, 3, 4, 5, 6] [6, 0, 1, 2, 3, 4, 5, 7, 8, 9, 10] (wr := [aI cI ki 5 K, oA a le s h ch, aI cI le 5 V, oS s hr lo ((n : Nat) : Int), aI cI hr 6 SH, aI cI lo 6 SL]) rfl rfl (by decide) (by decide) (fun _ => rfl) (wN := fun u_64_4 => [oG g pg ki ((nh : Nat) : Int) rd a kp ik no su, aI cI ki 5 K, oA a le s h ch, aI cI le 5 V, oS s hr lo ((n : Nat) : Int), aI cI hr 6 SH, aI cI lo 6 SL, oT no qn, aI cI qn 12 ((sp_sum SH SL n)), oT su qs, aI cI qs 12 (sp_add (sp_sum SH SL n) (((aa : Nat) : Int)) l)]) (fun _ => rfl) (stN := fun u_64_4 => [.ref su, .int (jI 0), .ref g, .int (jI ((12 * nh : Nat) : Int))]) (fun _ => rfl) rfl (Nat.le_of_ble_eq_true rfl) rfl dX5_best_64 (fun u_64_4 hu_64_4 => ?_)
              refine jw_callRV (pc := 67) C [.int (jI 0), .ref su] [.int (jI ((12 * nh : Nat) : Int))] 2 (con_X5_hoursOfAll lau D cI cB g pg ki nh rd a kp ik no su K le s h ch V su qs (sp_add (sp_sum SH SL n) (((aa : Nat) : Int)) l) 0 (by omega) (by omega) hK hV (sp_add_99 hR54 (by omega))) gX5_best_X5_hoursOfAll rfl rfl rfl (by decide +kernel) ⟨Nat.le_of_ble_eq_true rfl, Nat.le_of_ble_eq_true rfl⟩ 0 rfl rfl [0, 1, 2, 3, 9, 10] rfl rfl (Nat.le_of_ble_eq_true rfl) rfl dX5_best_67 ?_
              have b_67_0 := sp_all_b K V (sp_add (sp_sum SH SL n) (((aa : Nat) : Int)) l) 0 nh
              refine jw_isub (pc := 70) (z := (sp_q K V (sp_sum SH SL n) nh l aa)) C dX5_best_70 (by unfold sp_q; omega) ?_
              have hq : 0 ≤ sp_q K V (sp_sum SH SL n) nh l aa ∧ sp_q K V (sp_sum SH SL n) nh l aa ≤ 60 := by unfold sp_q; omega
              refine jw_istore (pc := 71) (lv' := [(7, .int (jI (sp_q K V (sp_sum SH SL n) nh l aa))), (0, .ref g), (1, .int (jI l)), (2, .int (jI w)), (3, .ref no), (4, .int (jI bh)), (5, .int (jI bm)), (6, .int (jI ((aa : Nat) : Int)))]) C dX5_best_71 (by decide) rfl ?_
              refine jw_iload (pc := 73) C dX5_best_73 0 rfl ?_
              refine jw_iload (pc := 75) C dX5_best_75 6 rfl ?_
              refine jw_icmp_le (pc := 77) (tgt := 88) C dX5_best_77 (by decide) (by omega) (by omega) (fun c_77 => ?_) (fun c_77 => ?_)
              · -- 77 t
                refine jw_iinc (pc := 88) (z := ((aa + 1 : Nat) : Int)) (lv' := [(6, .int (jI ((aa + 1 : Nat) : Int))), (7, .int (jI (sp_q K V (sp_sum SH SL n) nh l aa))), (0, .ref g), (1, .int (jI l)), (2, .int (jI w)), (3, .ref no), (4, .int (jI bh)), (5, .int (jI bm))]) C dX5_best_88 7 rfl (by omega) (by decide) rfl ?_
                refine jw_goto (pc := 91) (tgt := 43) C dX5_best_91 (by decide) ?_
                refine jw_lv [2, 3, 4, 5, 6, 7, 0] rfl ?_
                exact ih_3 (aa + 1) bh bm (sp_add (sp_sum SH SL n) (((aa : Nat) : Int)) l) (by omega) (by show _ = (if sp_bm K V (sp_sum SH SL n) nh l aa < sp_q K V (sp_sum SH SL n) nh l aa then sp_q K V (sp_sum SH SL n) nh l aa else sp_bm K V (sp_sum SH SL n) nh l aa); rw [← hbm]; split <;> omega) (by show _ = (if sp_bm K V (sp_sum SH SL n) nh l aa < sp_q K V (sp_sum SH SL n) nh l aa then ((aa : Nat) : Int) else sp_bh K V (sp_sum SH SL n) nh l aa); rw [← hbm, ← hbh]; split <;> omega) (by omega) (by omega)
              · -- 77 f
                refine jw_iload (pc := 80) C dX5_best_80 0 rfl ?_
                refine jw_istore (pc := 82) (lv' := [(5, .int (jI (sp_q K V (sp_sum SH SL n) nh l aa))), (7, .int (jI (sp_q K V (sp_sum SH SL n) nh l aa))), (0, .ref g), (1, .int (jI l)), (2, .int (jI w)), (3, .ref no), (4, .int (jI bh)), (6, .int (jI ((aa : Nat) : Int)))]) C dX5_best_82 (by decide) rfl ?_
                refine jw_iload (pc := 84) C dX5_best_84 7 rfl ?_
                refine jw_istore (pc := 86) (lv' := [(4, .int (jI ((aa : Nat) : Int))), (5, .int (jI (sp_q K V (sp_sum SH SL n) nh l aa))), (7, .int (jI (sp_q K V (sp_sum SH SL n) nh l aa))), (0, .ref g), (1, .int (jI l)), (2, .int (jI w)), (3, .ref no), (6, .int (jI ((aa : Nat) : Int)))]) C dX5_best_86 (by decide) rfl ?_
                refine jw_iinc (pc := 88) (z := ((aa + 1 : Nat) : Int)) (lv' := [(6, .int (jI ((aa + 1 : Nat) : Int))), (4, .int (jI ((aa : Nat) : Int))), (5, .int (jI (sp_q K V (sp_sum SH SL n) nh l aa))), (7, .int (jI (sp_q K V (sp_sum SH SL n) nh l aa))), (0, .ref g), (1, .int (jI l)), (2, .int (jI w)), (3, .ref no)]) C dX5_best_88 7 rfl (by omega) (by decide) rfl ?_
                refine jw_goto (pc := 91) (tgt := 43) C dX5_best_91 (by decide) ?_
                refine jw_lv [4, 5, 6, 7, 1, 2, 0] rfl ?_
                exact ih_3 (aa + 1) (((aa : Nat) : Int)) ((sp_q K V (sp_sum SH SL n) nh l aa)) (sp_add (sp_sum SH SL n) (((aa : Nat) : Int)) l) (by omega) (by show _ = (if sp_bm K V (sp_sum SH SL n) nh l aa < sp_q K V (sp_sum SH SL n) nh l aa then sp_q K V (sp_sum SH SL n) nh l aa else sp_bm K V (sp_sum SH SL n) nh l aa); rw [← hbm]; split <;> omega) (by show _ = (if sp_bm K V (sp_sum SH SL n) nh l aa < sp_q K V (sp_sum SH SL n) nh l aa then ((aa : Nat) : Int) else sp_bh K V (sp_sum SH SL n) nh l aa); rw [← hbm, ← hbh]; split <;> omega) (by omega) (by omega)
        refine jw_lv [4, 5, 6, 3, 2, 1, 0] rfl ?_
        exact lp_43_2 ((10 - 0) + 1) 0 ((-1)) ((-1)) g0 (by omega) rfl rfl (by omega) (Nat.lt_succ_self _)
      · -- 23 f
        refine jw_bipush (pc := 26) C dX5_best_26 (by decide +kernel) ?_
        exact jw_iretW (pc := 28) C E dX5_best_28 (((f0), (g0))) (congrArg (fun z => some (Value.int (jI z))) (by unfold sp_best; (repeat' split) <;> omega)) trivial rfl
    · -- 13 f
      refine jw_bipush (pc := 16) C dX5_best_16 (by decide +kernel) ?_
      exact jw_iretW (pc := 18) C E dX5_best_18 (((f0), (g0))) (congrArg (fun z => some (Value.int (jI z))) (by unfold sp_best; (repeat' split) <;> omega)) trivial rfl
theorem fl_X5_hear_23 : Cond.fieldLink RX5 23 "GongTide" "affairs" "LGongTide$Affairs;" ∈ wsX5_hear := by decide +kernel
theorem fl_X5_hear_171 : Cond.fieldLink RX5 171 "GongTide$Affairs" "heard" "LGongTide$Heard;" ∈ wsX5_hear := by decide +kernel
theorem hi_X5_hear_X0 : ∀ w ∈ wsX00, w ∈ wsX5_hear := fun w h => List.mem_cons_of_mem _ (List.mem_append_left _ (List.mem_append_right _ h))
theorem hi_X5_hear_X5 : ∀ w ∈ wsX50, w ∈ wsX5_hear := fun w h => List.mem_cons_of_mem _ (List.mem_append_left _ (List.mem_append_left _ (List.mem_append_right _ h)))
def rmX5_hear : Room := { frames := 2, cells := 0, slots := 0, locals := 43 }
set_option maxHeartbeats 4000000 in
set_option maxRecDepth 100000 in
theorem con_X5_hear (lau : Launch) (D : va_G) (cI cB : ClassId) (g : Nat) (pg : Nat) (ki : Nat) (nh : Nat) (rd : Int) (a : Nat) (kp : Nat) (ik : Int) (no : Nat) (su : Nat) (le : Nat) (s : Nat) (h : Nat) (ch : Int) (hh : Nat) (hq : Nat) (hl : Nat) (hw : Nat) (m : Nat) (HH : Nat → Int) (HO : Nat → Int) (HL : Nat → Int) (HW : Nat → Int) (k : Nat) (x : Int) (l : Int) (w : Int) (hnh : nh ≤ 5) (hk : k < nh) (hx : 0 ≤ x ∧ x ≤ 11) (hlo : 1 ≤ l ∧ l ≤ 9) (hwo : 0 ≤ w ∧ w ≤ 2) (hm6 : m < 6) : jMW (S := Unit) lau yX5_hear wsX5_hear rmX5_hear D cI cB [.ref g, .int (jI ((k : Nat) : Int)), .int (jI x), .int (jI l), .int (jI w)] [oG g pg ki ((nh : Nat) : Int) rd a kp ik no su, oA a le s h ch, oH h hh hq hl hw ((m : Nat) : Int), aI cI hh 6 HH, aI cI hq 6 HO, aI cI hl 6 HL, aI cI hw 6 HW] (fun u => some (.int (jI ((m + 1 : Nat) : Int)))) (fun u => True) (fun u => [oG g pg ki ((nh : Nat) : Int) rd a kp ik no su, oA a le s h ch, oH h hh hq hl hw ((m + 1 : Nat) : Int), aI cI hh 6 (va_up HH m ((k : Nat) : Int)), aI cI hq 6 (va_up HO m x), aI cI hl 6 (va_up HL m l), aI cI hw 6 (va_up HW m w)]) := by
  refine jMW.of (own := RX5) (cc := cX5_hear) (maxL := 5) (ret := (some .int)) rfl (by decide) rfl (Nat.le_of_ble_eq_true rfl) ?_
  intro X C E
  refine jw_lv (lv' := [(0, .ref g), (1, .int (jI ((k : Nat) : Int))), (2, .int (jI x)), (3, .int (jI l)), (4, .int (jI w))]) [0, 1, 2, 3, 4] rfl ?_
  refine jw_aload_n (pc := 0) C dX5_hear_0 0 rfl ?_
  refine jw_iload_n (pc := 1) C dX5_hear_1 1 rfl ?_
  refine jw_callRV (pc := 2) C [.int (jI ((((k : Nat) : Int))))] [] 1 (con_X5_isHouse lau D cI cB g pg ki nh rd a kp ik no su (((k : Nat) : Int)) (by omega) (by omega)) gX5_hear_X5_isHouse rfl rfl rfl (by decide +kernel) ⟨Nat.le_of_ble_eq_true rfl, Nat.le_of_ble_eq_true rfl⟩ 0 rfl rfl [0] rfl rfl (Nat.le_of_ble_eq_true rfl) rfl dX5_hear_2 ?_
  refine jw_ifb_ne (pc := 5) (tgt := 11) C dX5_hear_5 (by decide) (fun c_5 => ?_) (fun c_5 => ?_)
  · -- 5 t
    refine jw_iload_n (pc := 11) C dX5_hear_11 2 rfl ?_
    refine jw_callRS (pc := 12) C [.int (jI x)] [] 1 (con_X5_isHourOfDay lau D cI cB x (by omega)) gX5_hear_X5_isHourOfDay rfl rfl rfl (by decide +kernel) ⟨Nat.le_of_ble_eq_true rfl, Nat.le_of_ble_eq_true rfl⟩ [] rfl rfl (Nat.le_of_ble_eq_true rfl) rfl dX5_hear_12 ?_
    refine jw_ifb_eq (pc := 15) (tgt := 35) C dX5_hear_15 (by decide) (fun c_15 => ?_) (fun c_15 => ?_)
    · exfalso; omega
    · -- 15 f
      refine jw_iload_n (pc := 18) C dX5_hear_18 3 rfl ?_
      refine jw_callRS (pc := 19) C [.int (jI l)] [] 1 (con_X5_isHeardLoud lau D cI cB l (by omega)) gX5_hear_X5_isHeardLoud rfl rfl rfl (by decide +kernel) ⟨Nat.le_of_ble_eq_true rfl, Nat.le_of_ble_eq_true rfl⟩ [] rfl rfl (Nat.le_of_ble_eq_true rfl) rfl dX5_hear_19 ?_
      refine jw_ifb_eq (pc := 22) (tgt := 35) C dX5_hear_22 (by decide) (fun c_22 => ?_) (fun c_22 => ?_)
      · exfalso; omega
      · -- 22 f
        refine jw_iload (pc := 25) C dX5_hear_25 4 rfl ?_
        refine jw_iconst (pc := 27) C dX5_hear_27 ?_
        refine jw_iconst (pc := 28) C dX5_hear_28 ?_
        refine jw_callRS (pc := 29) C [.int (jI w), .int (jI 0), .int (jI 2)] [] 3 (con_X5_isWithin lau D cI cB w 0 2 (by omega) (by omega) (by omega)) gX5_hear_X5_isWithin rfl rfl rfl (by decide +kernel) ⟨Nat.le_of_ble_eq_true rfl, Nat.le_of_ble_eq_true rfl⟩ [] rfl rfl (Nat.le_of_ble_eq_true rfl) rfl dX5_hear_29 ?_
        refine jw_ifb_ne (pc := 32) (tgt := 38) C dX5_hear_32 (by decide) (fun c_32 => ?_) (fun c_32 => ?_)
        · -- 32 t
          refine jw_aload_n (pc := 38) C dX5_hear_38 0 rfl ?_
          refine jw_get (pc := 39) C hi_X5_hear_X5 0 rfl rfl 4 (by decide) fl_X5_hear_23 rfl rfl dX5_hear_39 ?_
          refine jw_get (pc := 42) C hi_X5_hear_X0 1 rfl rfl 2 (by decide) fl_X5_hear_171 rfl rfl dX5_hear_42 ?_
          refine jw_iload_n (pc := 45) C dX5_hear_45 1 rfl ?_
          refine jw_iload_n (pc := 46) C dX5_hear_46 2 rfl ?_
          refine jw_iload_n (pc := 47) C dX5_hear_47 3 rfl ?_
          refine jw_iload (pc := 48) C dX5_hear_48 4 rfl ?_
          refine jw_callWV (pc := 50) C [.int (jI ((((k : Nat) : Int)))), .int (jI x), .int (jI l), .int (jI w)] [] 4 (con_X1_add lau D cI cB h hh hq hl hw m HH HO HL HW (((k : Nat) : Int)) x l w (by omega)) gX5_hear_X1_add rfl rfl rfl (by decide +kernel) ⟨Nat.le_of_ble_eq_true rfl, Nat.le_of_ble_eq_true rfl⟩ 2 rfl rfl [2, 3, 4, 5, 6] [0, 1] [0, 1, 2, 3, 4, 5, 6] (wr := [oG g pg ki ((nh : Nat) : Int) rd a kp ik no su, oA a le s h ch]) rfl rfl (by decide) (by decide) (fun _ => rfl) (wN := fun u_50_1 => [oG g pg ki ((nh : Nat) : Int) rd a kp ik no su, oA a le s h ch, oH h hh hq hl hw ((m + 1 : Nat) : Int), aI cI hh 6 (va_up HH m (((k : Nat) : Int))), aI cI hq 6 (va_up HO m x), aI cI hl 6 (va_up HL m l), aI cI hw 6 (va_up HW m w)]) (fun _ => rfl) (stN := fun u_50_1 => [.int (jI 1)]) (fun _ => rfl) rfl (Nat.le_of_ble_eq_true rfl) rfl dX5_hear_50 (fun u_50_1 hu_50_1 => ?_)
          refine jw_if_eq (pc := 53) (tgt := 69) C dX5_hear_53 (by decide) (by omega) (fun c_53 => (by exfalso; omega)) (fun c_53 => ?_)
          refine jw_aload_n (pc := 56) C dX5_hear_56 0 rfl ?_
          refine jw_get (pc := 57) C hi_X5_hear_X5 0 rfl rfl 4 (by decide) fl_X5_hear_23 rfl rfl dX5_hear_57 ?_
          refine jw_get (pc := 60) C hi_X5_hear_X0 1 rfl rfl 2 (by decide) fl_X5_hear_171 rfl rfl dX5_hear_60 ?_
          refine jw_callRV (pc := 63) C [] [] 0 (con_X1_size lau D cI cB h hh hq hl hw (m + 1) ) gX5_hear_X1_size rfl rfl rfl (by decide +kernel) ⟨Nat.le_of_ble_eq_true rfl, Nat.le_of_ble_eq_true rfl⟩ 2 rfl rfl [2] rfl rfl (Nat.le_of_ble_eq_true rfl) rfl dX5_hear_63 ?_
          refine jw_goto (pc := 66) (tgt := 71) C dX5_hear_66 (by decide) ?_
          exact jw_iretW (pc := 71) C E dX5_hear_71 (()) rfl trivial rfl
        · exfalso; omega
  · exfalso; omega
set_option maxHeartbeats 4000000 in
set_option maxRecDepth 100000 in
theorem con_X5_hearF (lau : Launch) (D : va_G) (cI cB : ClassId) (g : Nat) (pg : Nat) (ki : Nat) (nh : Nat) (rd : Int) (a : Nat) (kp : Nat) (ik : Int) (no : Nat) (su : Nat) (le : Nat) (s : Nat) (h : Nat) (ch : Int) (hh : Nat) (hq : Nat) (hl : Nat) (hw : Nat) (m : Nat) (HH : Nat → Int) (HO : Nat → Int) (HL : Nat → Int) (HW : Nat → Int) (z : Int) (x : Int) (l : Int) (w : Int) (hnh : nh ≤ 5) (hz : -2147483648 ≤ z ∧ z < 2147483648) (hx : -2147483648 ≤ x ∧ x < 2147483648) (hlo : -2147483648 ≤ l ∧ l < 2147483648) (hwo : -2147483648 ≤ w ∧ w < 2147483648) (hm6 : m ≤ 6) (hrf : ¬ ((0 ≤ z ∧ z ≤ ((nh : Nat) : Int) - 1) ∧ (0 ≤ x ∧ x ≤ 11) ∧ (1 ≤ l ∧ l ≤ 9) ∧ (0 ≤ w ∧ w ≤ 2)) ∨ m = 6) : jMW (S := Unit) lau yX5_hear wsX5_hear rmX5_hear D cI cB [.ref g, .int (jI z), .int (jI x), .int (jI l), .int (jI w)] [oG g pg ki ((nh : Nat) : Int) rd a kp ik no su, oA a le s h ch, oH h hh hq hl hw ((m : Nat) : Int), aI cI hh 6 HH, aI cI hq 6 HO, aI cI hl 6 HL, aI cI hw 6 HW] (fun u => some (.int (jI (sp_hearF nh z x l w)))) (fun u => True) (fun u => [oG g pg ki ((nh : Nat) : Int) rd a kp ik no su, oA a le s h ch, oH h hh hq hl hw ((m : Nat) : Int), aI cI hh 6 HH, aI cI hq 6 HO, aI cI hl 6 HL, aI cI hw 6 HW]) := by
  refine jMW.of (own := RX5) (cc := cX5_hear) (maxL := 5) (ret := (some .int)) rfl (by decide) rfl (Nat.le_of_ble_eq_true rfl) ?_
  intro X C E
  refine jw_lv (lv' := [(0, .ref g), (1, .int (jI z)), (2, .int (jI x)), (3, .int (jI l)), (4, .int (jI w))]) [0, 1, 2, 3, 4] rfl ?_
  refine jw_aload_n (pc := 0) C dX5_hear_0 0 rfl ?_
  refine jw_iload_n (pc := 1) C dX5_hear_1 1 rfl ?_
  refine jw_callRV (pc := 2) C [.int (jI z)] [] 1 (con_X5_isHouse lau D cI cB g pg ki nh rd a kp ik no su z (by omega) (by omega)) gX5_hear_X5_isHouse rfl rfl rfl (by decide +kernel) ⟨Nat.le_of_ble_eq_true rfl, Nat.le_of_ble_eq_true rfl⟩ 0 rfl rfl [0] rfl rfl (Nat.le_of_ble_eq_true rfl) rfl dX5_hear_2 ?_
  refine jw_ifb_ne (pc := 5) (tgt := 11) C dX5_hear_5 (by decide) (fun c_5 => ?_) (fun c_5 => ?_)
  · -- 5 t
    refine jw_iload_n (pc := 11) C dX5_hear_11 2 rfl ?_
    refine jw_callRS (pc := 12) C [.int (jI x)] [] 1 (con_X5_isHourOfDay lau D cI cB x (by omega)) gX5_hear_X5_isHourOfDay rfl rfl rfl (by decide +kernel) ⟨Nat.le_of_ble_eq_true rfl, Nat.le_of_ble_eq_true rfl⟩ [] rfl rfl (Nat.le_of_ble_eq_true rfl) rfl dX5_hear_12 ?_
    refine jw_ifb_eq (pc := 15) (tgt := 35) C dX5_hear_15 (by decide) (fun c_15 => ?_) (fun c_15 => ?_)
    · -- 15 t
      refine jw_bipush (pc := 35) C dX5_hear_35 (by decide +kernel) ?_
      exact jw_iretW (pc := 37) C E dX5_hear_37 (()) (congrArg (fun z => some (Value.int (jI z))) (by unfold sp_hearF; (repeat' split) <;> omega)) trivial rfl
    · -- 15 f
      refine jw_iload_n (pc := 18) C dX5_hear_18 3 rfl ?_
      refine jw_callRS (pc := 19) C [.int (jI l)] [] 1 (con_X5_isHeardLoud lau D cI cB l (by omega)) gX5_hear_X5_isHeardLoud rfl rfl rfl (by decide +kernel) ⟨Nat.le_of_ble_eq_true rfl, Nat.le_of_ble_eq_true rfl⟩ [] rfl rfl (Nat.le_of_ble_eq_true rfl) rfl dX5_hear_19 ?_
      refine jw_ifb_eq (pc := 22) (tgt := 35) C dX5_hear_22 (by decide) (fun c_22 => ?_) (fun c_22 => ?_)
      · -- 22 t
        refine jw_bipush (pc := 35) C dX5_hear_35 (by decide +kernel) ?_
        exact jw_iretW (pc := 37) C E dX5_hear_37 (()) (congrArg (fun z => some (Value.int (jI z))) (by unfold sp_hearF; (repeat' split) <;> omega)) trivial rfl
      · -- 22 f
        refine jw_iload (pc := 25) C dX5_hear_25 4 rfl ?_
        refine jw_iconst (pc := 27) C dX5_hear_27 ?_
        refine jw_iconst (pc := 28) C dX5_hear_28 ?_
        refine jw_callRS (pc := 29) C [.int (jI w), .int (jI 0), .int (jI 2)] [] 3 (con_X5_isWithin lau D cI cB w 0 2 (by omega) (by omega) (by omega)) gX5_hear_X5_isWithin rfl rfl rfl (by decide +kernel) ⟨Nat.le_of_ble_eq_true rfl, Nat.le_of_ble_eq_true rfl⟩ [] rfl rfl (Nat.le_of_ble_eq_true rfl) rfl dX5_hear_29 ?_
        refine jw_ifb_ne (pc := 32) (tgt := 38) C dX5_hear_32 (by decide) (fun c_32 => ?_) (fun c_32 => ?_)
        · -- 32 t
          refine jw_aload_n (pc := 38) C dX5_hear_38 0 rfl ?_
          refine jw_get (pc := 39) C hi_X5_hear_X5 0 rfl rfl 4 (by decide) fl_X5_hear_23 rfl rfl dX5_hear_39 ?_
          refine jw_get (pc := 42) C hi_X5_hear_X0 1 rfl rfl 2 (by decide) fl_X5_hear_171 rfl rfl dX5_hear_42 ?_
          refine jw_iload_n (pc := 45) C dX5_hear_45 1 rfl ?_
          refine jw_iload_n (pc := 46) C dX5_hear_46 2 rfl ?_
          refine jw_iload_n (pc := 47) C dX5_hear_47 3 rfl ?_
          refine jw_iload (pc := 48) C dX5_hear_48 4 rfl ?_
          refine jw_callWV (pc := 50) C [.int (jI z), .int (jI x), .int (jI l), .int (jI w)] [] 4 (con_X1_addF lau D cI cB h hh hq hl hw m HH HO HL HW z x l w (by omega)) gX5_hear_X1_add rfl rfl rfl (by decide +kernel) ⟨Nat.le_of_ble_eq_true rfl, Nat.le_of_ble_eq_true rfl⟩ 2 rfl rfl [2, 3, 4, 5, 6] [0, 1] [0, 1, 2, 3, 4, 5, 6] (wr := [oG g pg ki ((nh : Nat) : Int) rd a kp ik no su, oA a le s h ch]) rfl rfl (by decide) (by decide) (fun _ => rfl) (wN := fun u_50_1 => [oG g pg ki ((nh : Nat) : Int) rd a kp ik no su, oA a le s h ch, oH h hh hq hl hw ((m : Nat) : Int), aI cI hh 6 HH, aI cI hq 6 HO, aI cI hl 6 HL, aI cI hw 6 HW]) (fun _ => rfl) (stN := fun u_50_1 => [.int (jI 0)]) (fun _ => rfl) rfl (Nat.le_of_ble_eq_true rfl) rfl dX5_hear_50 (fun u_50_1 hu_50_1 => ?_)
          refine jw_if_eq (pc := 53) (tgt := 69) C dX5_hear_53 (by decide) (by omega) (fun c_53 => ?_) (fun c_53 => (by exfalso; omega))
          refine jw_bipush (pc := 69) C dX5_hear_69 (by decide +kernel) ?_
          exact jw_iretW (pc := 71) C E dX5_hear_71 (()) (congrArg (fun z => some (Value.int (jI z))) (by unfold sp_hearF; (repeat' split) <;> omega)) trivial rfl
        · -- 32 f
          refine jw_bipush (pc := 35) C dX5_hear_35 (by decide +kernel) ?_
          exact jw_iretW (pc := 37) C E dX5_hear_37 (()) (congrArg (fun z => some (Value.int (jI z))) (by unfold sp_hearF; (repeat' split) <;> omega)) trivial rfl
  · -- 5 f
    refine jw_bipush (pc := 8) C dX5_hear_8 (by decide +kernel) ?_
    exact jw_iretW (pc := 10) C E dX5_hear_10 (()) (congrArg (fun z => some (Value.int (jI z))) (by unfold sp_hearF; (repeat' split) <;> omega)) trivial rfl
theorem fl_X5_forget_23 : Cond.fieldLink RX5 23 "GongTide" "affairs" "LGongTide$Affairs;" ∈ wsX5_forget := by decide +kernel
theorem fl_X5_forget_171 : Cond.fieldLink RX5 171 "GongTide$Affairs" "heard" "LGongTide$Heard;" ∈ wsX5_forget := by decide +kernel
theorem hi_X5_forget_X0 : ∀ w ∈ wsX00, w ∈ wsX5_forget := fun w h => List.mem_cons_of_mem _ (List.mem_append_left _ (List.mem_append_right _ h))
theorem hi_X5_forget_X5 : ∀ w ∈ wsX50, w ∈ wsX5_forget := fun w h => List.mem_cons_of_mem _ (List.mem_append_left _ (List.mem_append_left _ (List.mem_append_right _ h)))
def rmX5_forget : Room := { frames := 1, cells := 0, slots := 0, locals := 21 }
set_option maxHeartbeats 4000000 in
set_option maxRecDepth 100000 in
theorem con_X5_forget (lau : Launch) (D : va_G) (cI cB : ClassId) (g : Nat) (pg : Nat) (ki : Nat) (nh : Nat) (rd : Int) (a : Nat) (kp : Nat) (ik : Int) (no : Nat) (su : Nat) (le : Nat) (s : Nat) (h : Nat) (ch : Int) (hh : Nat) (hq : Nat) (hl : Nat) (hw : Nat) (m : Nat)  : jMW (S := Unit) lau yX5_forget wsX5_forget rmX5_forget D cI cB [.ref g] [oG g pg ki ((nh : Nat) : Int) rd a kp ik no su, oA a le s h ch, oH h hh hq hl hw ((m : Nat) : Int)] (fun u => some (.int (jI ((m : Nat) : Int)))) (fun u => True) (fun u => [oG g pg ki ((nh : Nat) : Int) rd a kp ik no su, oA a le s h ch, oH h hh hq hl hw ((0 : Nat) : Int)]) := by
  refine jMW.of (own := RX5) (cc := cX5_forget) (maxL := 1) (ret := (some .int)) rfl (by decide) rfl (Nat.le_of_ble_eq_true rfl) ?_
  intro X C E
  refine jw_lv (lv' := [(0, .ref g)]) [0] rfl ?_
  refine jw_aload_n (pc := 0) C dX5_forget_0 0 rfl ?_
  refine jw_get (pc := 1) C hi_X5_forget_X5 0 rfl rfl 4 (by decide) fl_X5_forget_23 rfl rfl dX5_forget_1 ?_
  refine jw_get (pc := 4) C hi_X5_forget_X0 1 rfl rfl 2 (by decide) fl_X5_forget_171 rfl rfl dX5_forget_4 ?_
  refine jw_callWV (pc := 7) C [] [] 0 (con_X1_clear lau D cI cB h hh hq hl hw m ) gX5_forget_X1_clear rfl rfl rfl (by decide +kernel) ⟨Nat.le_of_ble_eq_true rfl, Nat.le_of_ble_eq_true rfl⟩ 2 rfl rfl [2] [0, 1] [0, 1, 2] (wr := [oG g pg ki ((nh : Nat) : Int) rd a kp ik no su, oA a le s h ch]) rfl rfl (by decide) (by decide) (fun _ => rfl) (wN := fun u_7_1 => [oG g pg ki ((nh : Nat) : Int) rd a kp ik no su, oA a le s h ch, oH h hh hq hl hw ((0 : Nat) : Int)]) (fun _ => rfl) (stN := fun u_7_1 => [.int (jI ((m : Nat) : Int))]) (fun _ => rfl) rfl (Nat.le_of_ble_eq_true rfl) rfl dX5_forget_7 (fun u_7_1 hu_7_1 => ?_)
  exact jw_iretW (pc := 10) C E dX5_forget_10 (()) rfl trivial rfl
def rmX5_hours : Room := { frames := 4, cells := 0, slots := 0, locals := 94 }
set_option maxHeartbeats 4000000 in
set_option maxRecDepth 100000 in
theorem con_X5_hours (lau : Launch) (D : va_G) (cI cB : ClassId) (g : Nat) (pg : Nat) (ki : Nat) (nh : Nat) (rd : Int) (a : Nat) (kp : Nat) (ik : Int) (no : Nat) (su : Nat) (K : Nat → Int) (le : Nat) (s : Nat) (h : Nat) (ch : Int) (V : Nat → Int) (hr : Nat) (lo : Nat) (n : Nat) (SH : Nat → Int) (SL : Nat → Int) (hh : Nat) (hq : Nat) (hl : Nat) (hw : Nat) (m : Nat) (HH : Nat → Int) (HO : Nat → Int) (HL : Nat → Int) (HW : Nat → Int) (qn : Nat) (f0 : Nat → Int) (qs : Nat) (g0 : Nat → Int) (hnh : nh ≤ 5) (h2 : n ≤ 6) (hS : ∀ x, x < n → 0 ≤ SH x ∧ SH x ≤ 9 ∧ 0 ≤ SL x ∧ SL x ≤ 9) (hK : ∀ x, x < 5 → 0 ≤ K x ∧ K x ≤ 4) (hV : ∀ x, x < 5 → 0 ≤ V x ∧ V x ≤ 9) (hm6 : m ≤ 6) (hH : ∀ x, x < m → 0 ≤ HH x ∧ HH x < 5 ∧ 0 ≤ HO x ∧ HO x ≤ 11 ∧ 1 ≤ HL x ∧ HL x ≤ 9 ∧ 0 ≤ HW x ∧ HW x ≤ 2) : jMW (S := (Nat → Int) × (Nat → Int)) lau yX5_hours wsX5_hours rmX5_hours D cI cB [.ref g] [oG g pg ki ((nh : Nat) : Int) rd a kp ik no su, aI cI ki 5 K, oA a le s h ch, aI cI le 5 V, oS s hr lo ((n : Nat) : Int), aI cI hr 6 SH, aI cI lo 6 SL, oH h hh hq hl hw ((m : Nat) : Int), aI cI hh 6 HH, aI cI hq 6 HO, aI cI hl 6 HL, aI cI hw 6 HW, oT no qn, aI cI qn 12 f0, oT su qs, aI cI qs 12 g0] (fun u => some (.int (jI (sp_hours nh K V (sp_sum SH SL n) HH HO HL HW m)))) (fun u => True) (fun u => [oG g pg ki ((nh : Nat) : Int) rd a kp ik no su, aI cI ki 5 K, oA a le s h ch, aI cI le 5 V, oS s hr lo ((n : Nat) : Int), aI cI hr 6 SH, aI cI lo 6 SL, oH h hh hq hl hw ((m : Nat) : Int), aI cI hh 6 HH, aI cI hq 6 HO, aI cI hl 6 HL, aI cI hw 6 HW, oT no qn, aI cI qn 12 u.1, oT su qs, aI cI qs 12 u.2]) := by
  refine jMW.of (own := RX5) (cc := cX5_hours) (maxL := 4) (ret := (some .int)) rfl (by decide) rfl (Nat.le_of_ble_eq_true rfl) ?_
  intro X C E
  refine jw_lv (lv' := [(0, .ref g)]) [0] rfl ?_
  have hR54 := sp_sum_99 (SH := SH) (SL := SL) (n := n) h2 (fun x hx => (hS x hx).2.2)
  have hR99 := sp_99 hR54
  refine jw_aload_n (pc := 0) C dX5_hours_0 0 rfl ?_
  refine jw_callRV (pc := 1) C [] [] 0 (con_X5_hasColony lau D cI cB g pg ki nh rd a kp ik no su (by omega)) gX5_hours_X5_hasColony rfl rfl rfl (by decide +kernel) ⟨Nat.le_of_ble_eq_true rfl, Nat.le_of_ble_eq_true rfl⟩ 0 rfl rfl [0] rfl rfl (Nat.le_of_ble_eq_true rfl) rfl dX5_hours_1 ?_
  refine jw_ifb_ne (pc := 4) (tgt := 10) C dX5_hours_4 (by decide) (fun c_4 => ?_) (fun c_4 => ?_)
  · -- 4 t
    refine jw_aload_n (pc := 10) C dX5_hours_10 0 rfl ?_
    refine jw_callWV (pc := 11) C [] [] 0 (con_X5_tideNow lau D cI cB g pg ki nh rd a kp ik no su le s h ch hr lo n SH SL qn f0 (by omega) hS) gX5_hours_X5_tideNow rfl rfl rfl (by decide +kernel) ⟨Nat.le_of_ble_eq_true rfl, Nat.le_of_ble_eq_true rfl⟩ 0 rfl rfl [0, 2, 4, 5, 6, 12, 13] [1, 3, 7, 8, 9, 10, 11, 14, 15] [9, 0, 10, 1, 11, 12, 13, 2, 3, 4, 5, 6, 14, 15, 7, 8] (wr := [aI cI ki 5 K, aI cI le 5 V, oH h hh hq hl hw ((m : Nat) : Int), aI cI hh 6 HH, aI cI hq 6 HO, aI cI hl 6 HL, aI cI hw 6 HW, oT su qs, aI cI qs 12 g0]) rfl rfl (by decide) (by decide) (fun _ => rfl) (wN := fun u_11_1 => [oG g pg ki ((nh : Nat) : Int) rd a kp ik no su, aI cI ki 5 K, oA a le s h ch, aI cI le 5 V, oS s hr lo ((n : Nat) : Int), aI cI hr 6 SH, aI cI lo 6 SL, oH h hh hq hl hw ((m : Nat) : Int), aI cI hh 6 HH, aI cI hq 6 HO, aI cI hl 6 HL, aI cI hw 6 HW, oT no qn, aI cI qn 12 (sp_sum SH SL n), oT su qs, aI cI qs 12 g0]) (fun _ => rfl) (stN := fun u_11_1 => [.ref no]) (fun _ => rfl) rfl (Nat.le_of_ble_eq_true rfl) rfl dX5_hours_11 (fun u_11_1 hu_11_1 => ?_)
    refine jw_astore_n (pc := 14) (lv' := [(1, .ref no), (0, .ref g)]) C dX5_hours_14 (by decide) rfl ?_
    refine jw_iconst (pc := 15) C dX5_hours_15 ?_
    refine jw_istore_n (pc := 16) (lv' := [(2, .int (jI 0)), (1, .ref no), (0, .ref g)]) C dX5_hours_16 (by decide) rfl ?_
    refine jw_iconst (pc := 17) C dX5_hours_17 ?_
    refine jw_istore_n (pc := 18) (lv' := [(3, .int (jI 0)), (2, .int (jI 0)), (1, .ref no), (0, .ref g)]) C dX5_hours_18 (by decide) rfl ?_
    have lp_19_2 : ∀ (fu : Nat) (aa : Nat) (B : Nat) (c : Nat → Int), (aa ≤ 10) → (B = sp_bits (sp_agr K V (sp_sum SH SL n) HH HO HL HW m) aa) → (B < 2 ^ aa) → 10 - aa < fu → jW X 19 [(0, .ref g), (1, .ref no), (2, .int (jI ((B : Nat) : Int))), (3, .int (jI ((aa : Nat) : Int)))] [] [oG g pg ki ((nh : Nat) : Int) rd a kp ik no su, aI cI ki 5 K, oA a le s h ch, aI cI le 5 V, oS s hr lo ((n : Nat) : Int), aI cI hr 6 SH, aI cI lo 6 SL, oH h hh hq hl hw ((m : Nat) : Int), aI cI hh 6 HH, aI cI hq 6 HO, aI cI hl 6 HL, aI cI hw 6 HW, oT no qn, aI cI qn 12 (sp_sum SH SL n), oT su qs, aI cI qs 12 c] := by
      intro fu
      induction fu with
      | zero => intro aa B c haa hB0 hB hm; exact absurd hm (Nat.not_lt_zero _)
      | succ fu ih_3 =>
        intro aa B c haa hB0 hB hm
        refine jw_iload_n (pc := 19) C dX5_hours_19 3 rfl ?_
        refine jw_bipush (pc := 20) C dX5_hours_20 (by decide +kernel) ?_
        refine jw_icmp_ge (pc := 22) (tgt := 46) C dX5_hours_22 (by decide) (by omega) (by omega) (fun c_22 => ?_) (fun c_22 => ?_)
        · -- 22 t
          refine jw_iload_n (pc := 46) C dX5_hours_46 2 rfl ?_
          exact jw_iretW (pc := 47) C E dX5_hours_47 (((sp_sum SH SL n), (c))) (congrArg (fun z => some (Value.int (jI z))) (by unfold sp_hours; rw [if_pos (by omega), hB0, show aa = 10 by omega]; rfl)) trivial rfl
        · -- 22 f
          refine jw_aload_n (pc := 25) C dX5_hours_25 0 rfl ?_
          refine jw_aload_n (pc := 26) C dX5_hours_26 1 rfl ?_
          refine jw_iload_n (pc := 27) C dX5_hours_27 3 rfl ?_
          refine jw_callWV (pc := 28) C [.ref no, .int (jI ((aa : Nat) : Int))] [] 2 (con_X5_agreesWithHeard lau D cI cB g pg ki nh rd a kp ik no su K le s h ch V no qn (sp_sum SH SL n) hh hq hl hw m HH HO HL HW qs c aa (by omega) hH (by omega) hK hV hR54) gX5_hours_X5_agreesWithHeard rfl rfl rfl (by decide +kernel) ⟨Nat.le_of_ble_eq_true rfl, Nat.le_of_ble_eq_true rfl⟩ 0 rfl rfl [0, 1, 2, 3, 12, 13, 7, 8, 9, 10, 11, 14, 15] [4, 5, 6] [3, 4, 5, 6, 0, 1, 2, 9, 10, 11, 12, 13, 7, 8, 14, 15] (wr := [oS s hr lo ((n : Nat) : Int), aI cI hr 6 SH, aI cI lo 6 SL]) rfl rfl (by decide) (by decide) (fun _ => rfl) (wN := fun u_28_4 => [oG g pg ki ((nh : Nat) : Int) rd a kp ik no su, aI cI ki 5 K, oA a le s h ch, aI cI le 5 V, oS s hr lo ((n : Nat) : Int), aI cI hr 6 SH, aI cI lo 6 SL, oH h hh hq hl hw ((m : Nat) : Int), aI cI hh 6 HH, aI cI hq 6 HO, aI cI hl 6 HL, aI cI hw 6 HW, oT no qn, aI cI qn 12 ((sp_sum SH SL n)), oT su qs, aI cI qs 12 u_28_4]) (fun _ => rfl) (stN := fun u_28_4 => [.int (jI (jb (sp_agr K V (sp_sum SH SL n) HH HO HL HW m aa = true)))]) (fun _ => rfl) rfl (Nat.le_of_ble_eq_true rfl) rfl dX5_hours_28 (fun u_28_4 hu_28_4 => ?_)
          refine jw_ifb_eq (pc := 31) (tgt := 40) C dX5_hours_31 (by decide) (fun c_31 => ?_) (fun c_31 => ?_)
          · -- 31 t
            refine jw_iinc (pc := 40) (z := ((aa + 1 : Nat) : Int)) (lv' := [(3, .int (jI ((aa + 1 : Nat) : Int))), (0, .ref g), (1, .ref no), (2, .int (jI ((B : Nat) : Int)))]) C dX5_hours_40 3 rfl (by omega) (by decide) rfl ?_
            refine jw_goto (pc := 43) (tgt := 19) C dX5_hours_43 (by decide) ?_
            refine jw_lv [1, 2, 3, 0] rfl ?_
            exact ih_3 (aa + 1) B u_28_4 (by omega) (by first | (rw [hB0, sp_bits_t c_31]; done) | (rw [hB0, sp_bits_f c_31]; done)) (by rw [Nat.pow_succ]; omega) (by omega)
          · -- 31 f
            refine jw_iload_n (pc := 34) C dX5_hours_34 2 rfl ?_
            refine jw_iconst (pc := 35) C dX5_hours_35 ?_
            refine jw_iload_n (pc := 36) C dX5_hours_36 3 rfl ?_
            refine jw_ishl (pc := 37) C (jI ((2 ^ aa : Nat) : Int)) dX5_hours_37 (jI_shl1 aa (by omega)) ?_
            refine jw_ior (pc := 38) C (jI ((B + 2 ^ aa : Nat) : Int)) dX5_hours_38 (jI_or hB) ?_
            refine jw_istore_n (pc := 39) (lv' := [(2, .int (jI ((B + 2 ^ aa : Nat) : Int))), (0, .ref g), (1, .ref no), (3, .int (jI ((aa : Nat) : Int)))]) C dX5_hours_39 (by decide) rfl ?_
            refine jw_iinc (pc := 40) (z := ((aa + 1 : Nat) : Int)) (lv' := [(3, .int (jI ((aa + 1 : Nat) : Int))), (2, .int (jI ((B + 2 ^ aa : Nat) : Int))), (0, .ref g), (1, .ref no)]) C dX5_hours_40 3 rfl (by omega) (by decide) rfl ?_
            refine jw_goto (pc := 43) (tgt := 19) C dX5_hours_43 (by decide) ?_
            refine jw_lv [2, 3, 1, 0] rfl ?_
            exact ih_3 (aa + 1) (B + 2 ^ aa) u_28_4 (by omega) (by first | (rw [hB0, sp_bits_t c_31]; done) | (rw [hB0, sp_bits_f c_31]; done)) (by rw [Nat.pow_succ]; omega) (by omega)
    refine jw_lv [3, 2, 1, 0] rfl ?_
    exact lp_19_2 ((10 - 0) + 1) 0 0 g0 (by omega) rfl Nat.one_pos (Nat.lt_succ_self _)
  · -- 4 f
    refine jw_bipush (pc := 7) C dX5_hours_7 (by decide +kernel) ?_
    exact jw_iretW (pc := 9) C E dX5_hours_9 (((f0), (g0))) (congrArg (fun z => some (Value.int (jI z))) (by unfold sp_hours; rw [if_neg (by omega)])) trivial rfl
theorem fl_X5_ask_23 : Cond.fieldLink RX5 23 "GongTide" "affairs" "LGongTide$Affairs;" ∈ wsX5_ask := by decide +kernel
theorem fl_X5_ask_65 : Cond.fieldLink RX5 65 "GongTide" "houseCount" "I" ∈ wsX5_ask := by decide +kernel
theorem fl_X5_ask_171 : Cond.fieldLink RX5 171 "GongTide$Affairs" "heard" "LGongTide$Heard;" ∈ wsX5_ask := by decide +kernel
theorem hi_X5_ask_X0 : ∀ w ∈ wsX00, w ∈ wsX5_ask := fun w h => List.mem_cons_of_mem _ (List.mem_append_left _ (List.mem_append_left _ (List.mem_append_left _ (List.mem_append_right _ h))))
theorem hi_X5_ask_X5 : ∀ w ∈ wsX50, w ∈ wsX5_ask := fun w h => List.mem_cons_of_mem _ (List.mem_append_left _ (List.mem_append_left _ (List.mem_append_left _ (List.mem_append_left _ (List.mem_append_right _ h)))))
def rmX5_ask : Room := { frames := 5, cells := 0, slots := 0, locals := 117 }
set_option maxHeartbeats 4000000 in
set_option maxRecDepth 100000 in
theorem con_X5_ask (lau : Launch) (D : va_G) (cI cB : ClassId) (g : Nat) (pg : Nat) (ki : Nat) (nh : Nat) (rd : Int) (a : Nat) (kp : Nat) (ik : Int) (no : Nat) (su : Nat) (K : Nat → Int) (le : Nat) (s : Nat) (h : Nat) (ch : Int) (V : Nat → Int) (hr : Nat) (lo : Nat) (n : Nat) (SH : Nat → Int) (SL : Nat → Int) (hh : Nat) (hq : Nat) (hl : Nat) (hw : Nat) (m : Nat) (HH : Nat → Int) (HO : Nat → Int) (HL : Nat → Int) (HW : Nat → Int) (qn : Nat) (f0 : Nat → Int) (qs : Nat) (g0 : Nat → Int) (z : Int) (hnh : nh ≤ 5) (h2 : n ≤ 6) (hS : ∀ x, x < n → 0 ≤ SH x ∧ SH x ≤ 9 ∧ 0 ≤ SL x ∧ SL x ≤ 9) (hK : ∀ x, x < 5 → 0 ≤ K x ∧ K x ≤ 4) (hV : ∀ x, x < 5 → 0 ≤ V x ∧ V x ≤ 9) (hm6 : m ≤ 6) (hH : ∀ x, x < m → 0 ≤ HH x ∧ HH x < 5 ∧ 0 ≤ HO x ∧ HO x ≤ 11 ∧ 1 ≤ HL x ∧ HL x ≤ 9 ∧ 0 ≤ HW x ∧ HW x ≤ 2) (hz : -2147483648 ≤ z ∧ z < 2147483648) : jMW (S := (Nat → Int) × (Nat → Int)) lau yX5_ask wsX5_ask rmX5_ask D cI cB [.ref g, .int (jI z)] [oG g pg ki ((nh : Nat) : Int) rd a kp ik no su, aI cI ki 5 K, oA a le s h ch, aI cI le 5 V, oS s hr lo ((n : Nat) : Int), aI cI hr 6 SH, aI cI lo 6 SL, oH h hh hq hl hw ((m : Nat) : Int), aI cI hh 6 HH, aI cI hq 6 HO, aI cI hl 6 HL, aI cI hw 6 HW, oT no qn, aI cI qn 12 f0, oT su qs, aI cI qs 12 g0] (fun u => some (.int (jI (sp_ask nh K V (sp_sum SH SL n) HH HO HL HW m z)))) (fun u => True) (fun u => [oG g pg ki ((nh : Nat) : Int) rd a kp ik no su, aI cI ki 5 K, oA a le s h ch, aI cI le 5 V, oS s hr lo ((n : Nat) : Int), aI cI hr 6 SH, aI cI lo 6 SL, oH h hh hq hl hw ((m : Nat) : Int), aI cI hh 6 HH, aI cI hq 6 HO, aI cI hl 6 HL, aI cI hw 6 HW, oT no qn, aI cI qn 12 u.1, oT su qs, aI cI qs 12 u.2]) := by
  refine jMW.of (own := RX5) (cc := cX5_ask) (maxL := 8) (ret := (some .int)) rfl (by decide) rfl (Nat.le_of_ble_eq_true rfl) ?_
  intro X C E
  refine jw_lv (lv' := [(0, .ref g), (1, .int (jI z))]) [0, 1] rfl ?_
  have hR54 := sp_sum_99 (SH := SH) (SL := SL) (n := n) h2 (fun x hx => (hS x hx).2.2)
  have hR99 := sp_99 hR54
  have hhb := sp_hrs_b K V (sp_sum SH SL n) HH HO HL HW m
  refine jw_iload_n (pc := 0) C dX5_ask_0 1 rfl ?_
  refine jw_callRS (pc := 1) C [.int (jI z)] [] 1 (con_X5_isHourOfDay lau D cI cB z (by omega)) gX5_ask_X5_isHourOfDay rfl rfl rfl (by decide +kernel) ⟨Nat.le_of_ble_eq_true rfl, Nat.le_of_ble_eq_true rfl⟩ [] rfl rfl (Nat.le_of_ble_eq_true rfl) rfl dX5_ask_1 ?_
  refine jw_ifb_ne (pc := 4) (tgt := 10) C dX5_ask_4 (by decide) (fun c_4 => ?_) (fun c_4 => ?_)
  · -- 4 t
    obtain ⟨kz, rfl⟩ : ∃ kz : Nat, z = ((kz : Nat) : Int) := ⟨(z).toNat, by omega⟩
    refine jw_aload_n (pc := 10) C dX5_ask_10 0 rfl ?_
    refine jw_callRV (pc := 11) C [] [] 0 (con_X5_hasColony lau D cI cB g pg ki nh rd a kp ik no su (by omega)) gX5_ask_X5_hasColony rfl rfl rfl (by decide +kernel) ⟨Nat.le_of_ble_eq_true rfl, Nat.le_of_ble_eq_true rfl⟩ 0 rfl rfl [0] rfl rfl (Nat.le_of_ble_eq_true rfl) rfl dX5_ask_11 ?_
    refine jw_ifb_ne (pc := 14) (tgt := 20) C dX5_ask_14 (by decide) (fun c_14 => ?_) (fun c_14 => ?_)
    · -- 14 t
      refine jw_aload_n (pc := 20) C dX5_ask_20 0 rfl ?_
      refine jw_callWV (pc := 21) C [] [] 0 (con_X5_hours lau D cI cB g pg ki nh rd a kp ik no su K le s h ch V hr lo n SH SL hh hq hl hw m HH HO HL HW qn f0 qs g0 (by omega) (by omega) hS hK hV (by omega) hH) gX5_ask_X5_hours rfl rfl rfl (by decide +kernel) ⟨Nat.le_of_ble_eq_true rfl, Nat.le_of_ble_eq_true rfl⟩ 0 rfl rfl [0, 1, 2, 3, 4, 5, 6, 7, 8, 9, 10, 11, 12, 13, 14, 15] [] [0, 1, 2, 3, 4, 5, 6, 7, 8, 9, 10, 11, 12, 13, 14, 15] (wr := []) rfl rfl (by decide) (by decide) (fun _ => rfl) (wN := fun u_21_1 => [oG g pg ki ((nh : Nat) : Int) rd a kp ik no su, aI cI ki 5 K, oA a le s h ch, aI cI le 5 V, oS s hr lo ((n : Nat) : Int), aI cI hr 6 SH, aI cI lo 6 SL, oH h hh hq hl hw ((m : Nat) : Int), aI cI hh 6 HH, aI cI hq 6 HO, aI cI hl 6 HL, aI cI hw 6 HW, oT no qn, aI cI qn 12 u_21_1.1, oT su qs, aI cI qs 12 u_21_1.2]) (fun _ => rfl) (stN := fun u_21_1 => [.int (jI (sp_hours nh K V (sp_sum SH SL n) HH HO HL HW m))]) (fun _ => rfl) rfl (Nat.le_of_ble_eq_true rfl) rfl dX5_ask_21 (fun u_21_1 hu_21_1 => ?_)
      refine jw_top (y := jI ((sp_hrs K V (sp_sum SH SL n) HH HO HL HW m : Nat) : Int)) (congrArg jI (if_pos (by omega))) ?_
      refine jw_istore_n (pc := 24) (lv' := [(2, .int (jI ((sp_hrs K V (sp_sum SH SL n) HH HO HL HW m : Nat) : Int))), (0, .ref g), (1, .int (jI ((kz : Nat) : Int)))]) C dX5_ask_24 (by decide) rfl ?_
      refine jw_iload_n (pc := 25) C dX5_ask_25 0 rfl ?_
      refine jw_if_eq (pc := 26) (tgt := 42) C dX5_ask_26 (by decide) (by omega) (fun c_26 => ?_) (fun c_26 => ?_)
      · -- 26 t
        refine jw_iconst (pc := 42) C dX5_ask_42 ?_
        exact jw_iretW (pc := 43) C E dX5_ask_43 (((u_21_1.1), (u_21_1.2))) (congrArg (fun z => some (Value.int (jI z))) (by unfold sp_ask sp_askv; (try simp only [Int.toNat_natCast]); (repeat' split) <;> omega)) trivial rfl
      · -- 26 f
        refine jw_aload_n (pc := 29) C dX5_ask_29 1 rfl ?_
        refine jw_get (pc := 30) C hi_X5_ask_X5 0 rfl rfl 4 (by decide) fl_X5_ask_23 rfl rfl dX5_ask_30 ?_
        refine jw_get (pc := 33) C hi_X5_ask_X0 2 rfl rfl 2 (by decide) fl_X5_ask_171 rfl rfl dX5_ask_33 ?_
        refine jw_callRV (pc := 36) C [] [] 0 (con_X1_size lau D cI cB h hh hq hl hw m ) gX5_ask_X1_size rfl rfl rfl (by decide +kernel) ⟨Nat.le_of_ble_eq_true rfl, Nat.le_of_ble_eq_true rfl⟩ 7 rfl rfl [7] rfl rfl (Nat.le_of_ble_eq_true rfl) rfl dX5_ask_36 ?_
        refine jw_if_ne (pc := 39) (tgt := 44) C dX5_ask_39 (by decide) (by omega) (fun c_39 => ?_) (fun c_39 => ?_)
        · -- 39 t
          refine jw_aload_n (pc := 44) C dX5_ask_44 1 rfl ?_
          refine jw_callWV (pc := 45) C [] [] 0 (con_X5_tideNow lau D cI cB g pg ki nh rd a kp ik no su le s h ch hr lo n SH SL qn u_21_1.1 (by omega) hS) gX5_ask_X5_tideNow rfl rfl rfl (by decide +kernel) ⟨Nat.le_of_ble_eq_true rfl, Nat.le_of_ble_eq_true rfl⟩ 0 rfl rfl [0, 2, 4, 5, 6, 12, 13] [1, 3, 7, 8, 9, 10, 11, 14, 15] [9, 0, 10, 1, 11, 12, 13, 2, 3, 4, 5, 6, 14, 15, 7, 8] (wr := [aI cI ki 5 K, aI cI le 5 V, oH h hh hq hl hw ((m : Nat) : Int), aI cI hh 6 HH, aI cI hq 6 HO, aI cI hl 6 HL, aI cI hw 6 HW, oT su qs, aI cI qs 12 u_21_1.2]) rfl rfl (by decide) (by decide) (fun _ => rfl) (wN := fun u_45_2 => [oG g pg ki ((nh : Nat) : Int) rd a kp ik no su, aI cI ki 5 K, oA a le s h ch, aI cI le 5 V, oS s hr lo ((n : Nat) : Int), aI cI hr 6 SH, aI cI lo 6 SL, oH h hh hq hl hw ((m : Nat) : Int), aI cI hh 6 HH, aI cI hq 6 HO, aI cI hl 6 HL, aI cI hw 6 HW, oT no qn, aI cI qn 12 (sp_sum SH SL n), oT su qs, aI cI qs 12 u_21_1.2]) (fun _ => rfl) (stN := fun u_45_2 => [.ref no]) (fun _ => rfl) rfl (Nat.le_of_ble_eq_true rfl) rfl dX5_ask_45 (fun u_45_2 hu_45_2 => ?_)
          refine jw_astore_n (pc := 48) (lv' := [(3, .ref no), (2, .int (jI ((sp_hrs K V (sp_sum SH SL n) HH HO HL HW m : Nat) : Int))), (0, .ref g), (1, .int (jI ((kz : Nat) : Int)))]) C dX5_ask_48 (by decide) rfl ?_
          refine jw_iconst (pc := 49) C dX5_ask_49 ?_
          refine jw_istore (pc := 50) (lv' := [(4, .int (jI (-1))), (3, .ref no), (2, .int (jI ((sp_hrs K V (sp_sum SH SL n) HH HO HL HW m : Nat) : Int))), (0, .ref g), (1, .int (jI ((kz : Nat) : Int)))]) C dX5_ask_50 (by decide) rfl ?_
          refine jw_bipush (pc := 52) C dX5_ask_52 (by decide +kernel) ?_
          refine jw_istore (pc := 54) (lv' := [(5, .int (jI 11)), (4, .int (jI (-1))), (3, .ref no), (2, .int (jI ((sp_hrs K V (sp_sum SH SL n) HH HO HL HW m : Nat) : Int))), (0, .ref g), (1, .int (jI ((kz : Nat) : Int)))]) C dX5_ask_54 (by decide) rfl ?_
          refine jw_iconst (pc := 56) C dX5_ask_56 ?_
          refine jw_istore (pc := 57) (lv' := [(6, .int (jI 0)), (5, .int (jI 11)), (4, .int (jI (-1))), (3, .ref no), (2, .int (jI ((sp_hrs K V (sp_sum SH SL n) HH HO HL HW m : Nat) : Int))), (0, .ref g), (1, .int (jI ((kz : Nat) : Int)))]) C dX5_ask_57 (by decide) rfl ?_
          have lp_59_3 : ∀ (fu : Nat) (x : Nat) (fw : Nat) (bb : Int) (c : Nat → Int), (x ≤ nh) → (fw = sp_af 11 (sp_wr K V (sp_sum SH SL n) (sp_hrs K V (sp_sum SH SL n) HH HO HL HW m) (HL (m - 1)) kz) x) → (fw ≤ 11) → (bb = sp_ab 11 (sp_wr K V (sp_sum SH SL n) (sp_hrs K V (sp_sum SH SL n) HH HO HL HW m) (HL (m - 1)) kz) x) → nh - x < fu → jW X 59 [(0, .ref g), (1, .int (jI ((kz : Nat) : Int))), (2, .int (jI ((sp_hrs K V (sp_sum SH SL n) HH HO HL HW m : Nat) : Int))), (3, .ref no), (4, .int (jI bb)), (5, .int (jI ((fw : Nat) : Int))), (6, .int (jI ((x : Nat) : Int)))] [] [oG g pg ki ((nh : Nat) : Int) rd a kp ik no su, aI cI ki 5 K, oA a le s h ch, aI cI le 5 V, oS s hr lo ((n : Nat) : Int), aI cI hr 6 SH, aI cI lo 6 SL, oH h hh hq hl hw ((m : Nat) : Int), aI cI hh 6 HH, aI cI hq 6 HO, aI cI hl 6 HL, aI cI hw 6 HW, oT no qn, aI cI qn 12 (sp_sum SH SL n), oT su qs, aI cI qs 12 c] := by
            intro fu
            induction fu with
            | zero => intro x fw bb c hx hfw hf11 hbb hm; exact absurd hm (Nat.not_lt_zero _)
            | succ fu ih_4 =>
              intro x fw bb c hx hfw hf11 hbb hm
              refine jw_iload (pc := 59) C dX5_ask_59 6 rfl ?_
              refine jw_aload_n (pc := 61) C dX5_ask_61 0 rfl ?_
              refine jw_get (pc := 62) C hi_X5_ask_X5 0 rfl rfl 2 (by decide) fl_X5_ask_65 rfl rfl dX5_ask_62 ?_
              refine jw_icmp_ge (pc := 65) (tgt := 100) C dX5_ask_65 (by decide) (by omega) (by omega) (fun c_65 => ?_) (fun c_65 => ?_)
              · -- 65 t
                rw [show x = nh by omega] at hbb
                refine jw_iload (pc := 100) C dX5_ask_100 4 rfl ?_
                exact jw_iretW (pc := 102) C E dX5_ask_102 (((sp_sum SH SL n), (c))) (congrArg (fun z => some (Value.int (jI z))) (by unfold sp_ask sp_askv; (try simp only [Int.toNat_natCast]); (repeat' split) <;> omega)) trivial rfl
              · -- 65 f
                refine jw_aload_n (pc := 68) C dX5_ask_68 0 rfl ?_
                refine jw_iload_n (pc := 69) C dX5_ask_69 2 rfl ?_
                refine jw_aload_n (pc := 70) C dX5_ask_70 3 rfl ?_
                refine jw_iload (pc := 71) C dX5_ask_71 6 rfl ?_
                refine jw_iload_n (pc := 73) C dX5_ask_73 1 rfl ?_
                refine jw_callWV (pc := 74) C [.int (jI (((sp_hrs K V (sp_sum SH SL n) HH HO HL HW m) : Nat) : Int)), .ref no, .int (jI ((x : Nat) : Int)), .int (jI ((kz : Nat) : Int))] [] 4 (con_X5_mostLeft lau D cI cB g pg ki nh rd a kp ik no su K le s h ch V no qn (sp_sum SH SL n) hh hq hl hw m HL qs c (sp_hrs K V (sp_sum SH SL n) HH HO HL HW m) x kz (by omega) (by omega) (by have := hH (m - 1) (by omega); omega) (by omega) (by omega) (by omega) hK hV hR54) gX5_ask_X5_mostLeft rfl rfl rfl (by decide +kernel) ⟨Nat.le_of_ble_eq_true rfl, Nat.le_of_ble_eq_true rfl⟩ 0 rfl rfl [0, 1, 2, 3, 12, 13, 7, 10, 14, 15] [4, 5, 6, 8, 9, 11] [6, 7, 8, 9, 0, 1, 2, 12, 3, 4, 13, 5, 10, 11, 14, 15] (wr := [oS s hr lo ((n : Nat) : Int), aI cI hr 6 SH, aI cI lo 6 SL, aI cI hh 6 HH, aI cI hq 6 HO, aI cI hw 6 HW]) rfl rfl (by decide) (by decide) (fun _ => rfl) (wN := fun u_74_5 => [oG g pg ki ((nh : Nat) : Int) rd a kp ik no su, aI cI ki 5 K, oA a le s h ch, aI cI le 5 V, oS s hr lo ((n : Nat) : Int), aI cI hr 6 SH, aI cI lo 6 SL, oH h hh hq hl hw ((m : Nat) : Int), aI cI hh 6 HH, aI cI hq 6 HO, aI cI hl 6 HL, aI cI hw 6 HW, oT no qn, aI cI qn 12 ((sp_sum SH SL n)), oT su qs, aI cI qs 12 u_74_5]) (fun _ => rfl) (stN := fun u_74_5 => [.int (jI ((sp_worst (K x) (V x) (sp_sum SH SL n) (sp_hrs K V (sp_sum SH SL n) HH HO HL HW m) (HL (m - 1)) kz : Nat) : Int))]) (fun _ => rfl) rfl (Nat.le_of_ble_eq_true rfl) rfl dX5_ask_74 (fun u_74_5 hu_74_5 => ?_)
                have b_74_0 := sp_worst_b (K x) (V x) (sp_sum SH SL n) (sp_hrs K V (sp_sum SH SL n) HH HO HL HW m) (HL (m - 1)) kz
                refine jw_istore (pc := 77) (lv' := [(7, .int (jI ((sp_worst (K x) (V x) (sp_sum SH SL n) (sp_hrs K V (sp_sum SH SL n) HH HO HL HW m) (HL (m - 1)) kz : Nat) : Int))), (0, .ref g), (1, .int (jI ((kz : Nat) : Int))), (2, .int (jI ((sp_hrs K V (sp_sum SH SL n) HH HO HL HW m : Nat) : Int))), (3, .ref no), (4, .int (jI bb)), (5, .int (jI ((fw : Nat) : Int))), (6, .int (jI ((x : Nat) : Int)))]) C dX5_ask_77 (by decide) rfl ?_
                refine jw_iload (pc := 79) C dX5_ask_79 0 rfl ?_
                refine jw_iload (pc := 81) C dX5_ask_81 6 rfl ?_
                refine jw_icmp_ge (pc := 83) (tgt := 94) C dX5_ask_83 (by decide) (by omega) (by omega) (fun c_83 => ?_) (fun c_83 => ?_)
                · -- 83 t
                  refine jw_iinc (pc := 94) (z := ((x + 1 : Nat) : Int)) (lv' := [(6, .int (jI ((x + 1 : Nat) : Int))), (7, .int (jI ((sp_worst (K x) (V x) (sp_sum SH SL n) (sp_hrs K V (sp_sum SH SL n) HH HO HL HW m) (HL (m - 1)) kz : Nat) : Int))), (0, .ref g), (1, .int (jI ((kz : Nat) : Int))), (2, .int (jI ((sp_hrs K V (sp_sum SH SL n) HH HO HL HW m : Nat) : Int))), (3, .ref no), (4, .int (jI bb)), (5, .int (jI ((fw : Nat) : Int)))]) C dX5_ask_94 7 rfl (by omega) (by decide) rfl ?_
                  refine jw_goto (pc := 97) (tgt := 59) C dX5_ask_97 (by decide) ?_
                  refine jw_lv [2, 3, 4, 5, 6, 7, 0] rfl ?_
                  exact ih_4 (x + 1) fw bb u_74_5 (by omega) (by show _ = (if sp_worst (K x) (V x) (sp_sum SH SL n) (sp_hrs K V (sp_sum SH SL n) HH HO HL HW m) (HL (m - 1)) kz < sp_af 11 (sp_wr K V (sp_sum SH SL n) (sp_hrs K V (sp_sum SH SL n) HH HO HL HW m) (HL (m - 1)) kz) x then sp_worst (K x) (V x) (sp_sum SH SL n) (sp_hrs K V (sp_sum SH SL n) HH HO HL HW m) (HL (m - 1)) kz else sp_af 11 (sp_wr K V (sp_sum SH SL n) (sp_hrs K V (sp_sum SH SL n) HH HO HL HW m) (HL (m - 1)) kz) x); rw [← hfw]; split <;> omega) (by omega) (by show _ = (if sp_worst (K x) (V x) (sp_sum SH SL n) (sp_hrs K V (sp_sum SH SL n) HH HO HL HW m) (HL (m - 1)) kz < sp_af 11 (sp_wr K V (sp_sum SH SL n) (sp_hrs K V (sp_sum SH SL n) HH HO HL HW m) (HL (m - 1)) kz) x then ((x : Nat) : Int) else sp_ab 11 (sp_wr K V (sp_sum SH SL n) (sp_hrs K V (sp_sum SH SL n) HH HO HL HW m) (HL (m - 1)) kz) x); rw [← hfw, ← hbb]; split <;> omega) (by omega)
                · -- 83 f
                  refine jw_iload (pc := 86) C dX5_ask_86 0 rfl ?_
                  refine jw_istore (pc := 88) (lv' := [(5, .int (jI ((sp_worst (K x) (V x) (sp_sum SH SL n) (sp_hrs K V (sp_sum SH SL n) HH HO HL HW m) (HL (m - 1)) kz : Nat) : Int))), (7, .int (jI ((sp_worst (K x) (V x) (sp_sum SH SL n) (sp_hrs K V (sp_sum SH SL n) HH HO HL HW m) (HL (m - 1)) kz : Nat) : Int))), (0, .ref g), (1, .int (jI ((kz : Nat) : Int))), (2, .int (jI ((sp_hrs K V (sp_sum SH SL n) HH HO HL HW m : Nat) : Int))), (3, .ref no), (4, .int (jI bb)), (6, .int (jI ((x : Nat) : Int)))]) C dX5_ask_88 (by decide) rfl ?_
                  refine jw_iload (pc := 90) C dX5_ask_90 7 rfl ?_
                  refine jw_istore (pc := 92) (lv' := [(4, .int (jI ((x : Nat) : Int))), (5, .int (jI ((sp_worst (K x) (V x) (sp_sum SH SL n) (sp_hrs K V (sp_sum SH SL n) HH HO HL HW m) (HL (m - 1)) kz : Nat) : Int))), (7, .int (jI ((sp_worst (K x) (V x) (sp_sum SH SL n) (sp_hrs K V (sp_sum SH SL n) HH HO HL HW m) (HL (m - 1)) kz : Nat) : Int))), (0, .ref g), (1, .int (jI ((kz : Nat) : Int))), (2, .int (jI ((sp_hrs K V (sp_sum SH SL n) HH HO HL HW m : Nat) : Int))), (3, .ref no), (6, .int (jI ((x : Nat) : Int)))]) C dX5_ask_92 (by decide) rfl ?_
                  refine jw_iinc (pc := 94) (z := ((x + 1 : Nat) : Int)) (lv' := [(6, .int (jI ((x + 1 : Nat) : Int))), (4, .int (jI ((x : Nat) : Int))), (5, .int (jI ((sp_worst (K x) (V x) (sp_sum SH SL n) (sp_hrs K V (sp_sum SH SL n) HH HO HL HW m) (HL (m - 1)) kz : Nat) : Int))), (7, .int (jI ((sp_worst (K x) (V x) (sp_sum SH SL n) (sp_hrs K V (sp_sum SH SL n) HH HO HL HW m) (HL (m - 1)) kz : Nat) : Int))), (0, .ref g), (1, .int (jI ((kz : Nat) : Int))), (2, .int (jI ((sp_hrs K V (sp_sum SH SL n) HH HO HL HW m : Nat) : Int))), (3, .ref no)]) C dX5_ask_94 7 rfl (by omega) (by decide) rfl ?_
                  refine jw_goto (pc := 97) (tgt := 59) C dX5_ask_97 (by decide) ?_
                  refine jw_lv [4, 5, 6, 7, 1, 2, 0] rfl ?_
                  exact ih_4 (x + 1) (sp_worst (K x) (V x) (sp_sum SH SL n) (sp_hrs K V (sp_sum SH SL n) HH HO HL HW m) (HL (m - 1)) kz) (((x : Nat) : Int)) u_74_5 (by omega) (by show _ = (if sp_worst (K x) (V x) (sp_sum SH SL n) (sp_hrs K V (sp_sum SH SL n) HH HO HL HW m) (HL (m - 1)) kz < sp_af 11 (sp_wr K V (sp_sum SH SL n) (sp_hrs K V (sp_sum SH SL n) HH HO HL HW m) (HL (m - 1)) kz) x then sp_worst (K x) (V x) (sp_sum SH SL n) (sp_hrs K V (sp_sum SH SL n) HH HO HL HW m) (HL (m - 1)) kz else sp_af 11 (sp_wr K V (sp_sum SH SL n) (sp_hrs K V (sp_sum SH SL n) HH HO HL HW m) (HL (m - 1)) kz) x); rw [← hfw]; split <;> omega) (by omega) (by show _ = (if sp_worst (K x) (V x) (sp_sum SH SL n) (sp_hrs K V (sp_sum SH SL n) HH HO HL HW m) (HL (m - 1)) kz < sp_af 11 (sp_wr K V (sp_sum SH SL n) (sp_hrs K V (sp_sum SH SL n) HH HO HL HW m) (HL (m - 1)) kz) x then ((x : Nat) : Int) else sp_ab 11 (sp_wr K V (sp_sum SH SL n) (sp_hrs K V (sp_sum SH SL n) HH HO HL HW m) (HL (m - 1)) kz) x); rw [← hfw, ← hbb]; split <;> omega) (by omega)
          refine jw_lv [5, 6, 4, 3, 2, 1, 0] rfl ?_
          exact lp_59_3 ((nh - 0) + 1) 0 11 ((-1)) u_21_1.2 (by omega) rfl (by omega) rfl (Nat.lt_succ_self _)
        · -- 39 f
          refine jw_iconst (pc := 42) C dX5_ask_42 ?_
          exact jw_iretW (pc := 43) C E dX5_ask_43 (((u_21_1.1), (u_21_1.2))) (congrArg (fun z => some (Value.int (jI z))) (by unfold sp_ask sp_askv; (try simp only [Int.toNat_natCast]); (repeat' split) <;> omega)) trivial rfl
    · -- 14 f
      refine jw_bipush (pc := 17) C dX5_ask_17 (by decide +kernel) ?_
      exact jw_iretW (pc := 19) C E dX5_ask_19 (((f0), (g0))) (congrArg (fun z => some (Value.int (jI z))) (by unfold sp_ask sp_askv; (try simp only [Int.toNat_natCast]); (repeat' split) <;> omega)) trivial rfl
  · -- 4 f
    refine jw_bipush (pc := 7) C dX5_ask_7 (by decide +kernel) ?_
    exact jw_iretW (pc := 9) C E dX5_ask_9 (((f0), (g0))) (congrArg (fun z => some (Value.int (jI z))) (by unfold sp_ask sp_askv; (try simp only [Int.toNat_natCast]); (repeat' split) <;> omega)) trivial rfl
theorem fl_X5_weeks_37 : Cond.fieldLink RX5 37 "GongTide" "supposed" "LGongTide$Tide;" ∈ wsX5_weeks := by decide +kernel
theorem hi_X5_weeks_X5 : ∀ w ∈ wsX50, w ∈ wsX5_weeks := fun w h => List.mem_cons_of_mem _ (List.mem_append_left _ (List.mem_append_left _ (List.mem_append_left _ (List.mem_append_right _ h))))
def rmX5_weeks : Room := { frames := 5, cells := 0, slots := 0, locals := 117 }
set_option maxHeartbeats 4000000 in
set_option maxRecDepth 100000 in
theorem con_X5_weeks (lau : Launch) (D : va_G) (cI cB : ClassId) (g : Nat) (pg : Nat) (ki : Nat) (nh : Nat) (rd : Int) (a : Nat) (kp : Nat) (ik : Int) (no : Nat) (su : Nat) (K : Nat → Int) (le : Nat) (s : Nat) (h : Nat) (ch : Int) (V : Nat → Int) (hr : Nat) (lo : Nat) (n : Nat) (SH : Nat → Int) (SL : Nat → Int) (qs : Nat) (g0 : Nat → Int) (dd : Int) (sd0 : Int) (w : Int) (hnh : nh ≤ 5) (h2 : n ≤ 6) (hS : ∀ x, x < n → 0 ≤ SH x ∧ SH x ≤ 9 ∧ 0 ≤ SL x ∧ SL x ≤ 9) (hK : ∀ x, x < 5 → 0 ≤ K x ∧ K x ≤ 4) (hV : ∀ x, x < 5 → 0 ≤ V x ∧ V x ≤ 9) (hd : -2147483648 ≤ dd ∧ dd < 2147483648) (hsd : -2147483648 ≤ sd0 ∧ sd0 < 2147483648) (hw : -2147483648 ≤ w ∧ w < 2147483648) : jMW (S := Nat → Int) lau yX5_weeks wsX5_weeks rmX5_weeks D cI cB [.ref g, .int (jI dd), .int (jI sd0), .int (jI w)] [oG g pg ki ((nh : Nat) : Int) rd a kp ik no su, aI cI ki 5 K, oA a le s h ch, aI cI le 5 V, oS s hr lo ((n : Nat) : Int), aI cI hr 6 SH, aI cI lo 6 SL, oT su qs, aI cI qs 12 g0] (fun u => some (.int (jI (sp_weeks nh K V SL n dd sd0 w)))) (fun u => True) (fun u => [oG g pg ki ((nh : Nat) : Int) rd a kp ik no su, aI cI ki 5 K, oA a le s h ch, aI cI le 5 V, oS s hr lo ((n : Nat) : Int), aI cI hr 6 SH, aI cI lo 6 SL, oT su qs, aI cI qs 12 u]) := by
  refine jMW.of (own := RX5) (cc := cX5_weeks) (maxL := 8) (ret := (some .int)) rfl (by decide) rfl (Nat.le_of_ble_eq_true rfl) ?_
  intro X C E
  refine jw_lv (lv' := [(0, .ref g), (1, .int (jI dd)), (2, .int (jI sd0)), (3, .int (jI w))]) [0, 1, 2, 3] rfl ?_
  refine jw_iload_n (pc := 0) C dX5_weeks_0 1 rfl ?_
  refine jw_iconst (pc := 1) C dX5_weeks_1 ?_
  refine jw_bipush (pc := 2) C dX5_weeks_2 (by decide +kernel) ?_
  refine jw_callRS (pc := 4) C [.int (jI dd), .int (jI 1), .int (jI 30)] [] 3 (con_X5_isWithin lau D cI cB dd 1 30 (by omega) (by omega) (by omega)) gX5_weeks_X5_isWithin rfl rfl rfl (by decide +kernel) ⟨Nat.le_of_ble_eq_true rfl, Nat.le_of_ble_eq_true rfl⟩ [] rfl rfl (Nat.le_of_ble_eq_true rfl) rfl dX5_weeks_4 ?_
  refine jw_ifb_eq (pc := 7) (tgt := 23) C dX5_weeks_7 (by decide) (fun c_7 => ?_) (fun c_7 => ?_)
  · -- 7 t
    refine jw_bipush (pc := 23) C dX5_weeks_23 (by decide +kernel) ?_
    exact jw_iretW (pc := 25) C E dX5_weeks_25 ((g0)) (congrArg (fun z => some (Value.int (jI z))) (by unfold sp_weeks sp_weeksv; (try simp only [Int.toNat_natCast]); (repeat' split) <;> omega)) trivial rfl
  · -- 7 f
    refine jw_iload_n (pc := 10) C dX5_weeks_10 2 rfl ?_
    refine jw_if_lt (pc := 11) (tgt := 23) C dX5_weeks_11 (by decide) (by omega) (fun c_11 => ?_) (fun c_11 => ?_)
    · -- 11 t
      refine jw_bipush (pc := 23) C dX5_weeks_23 (by decide +kernel) ?_
      exact jw_iretW (pc := 25) C E dX5_weeks_25 ((g0)) (congrArg (fun z => some (Value.int (jI z))) (by unfold sp_weeks sp_weeksv; (try simp only [Int.toNat_natCast]); (repeat' split) <;> omega)) trivial rfl
    · -- 11 f
      refine jw_iload_n (pc := 14) C dX5_weeks_14 3 rfl ?_
      refine jw_iconst (pc := 15) C dX5_weeks_15 ?_
      refine jw_iconst (pc := 16) C dX5_weeks_16 ?_
      refine jw_callRS (pc := 17) C [.int (jI w), .int (jI 0), .int (jI 2)] [] 3 (con_X5_isWithin lau D cI cB w 0 2 (by omega) (by omega) (by omega)) gX5_weeks_X5_isWithin rfl rfl rfl (by decide +kernel) ⟨Nat.le_of_ble_eq_true rfl, Nat.le_of_ble_eq_true rfl⟩ [] rfl rfl (Nat.le_of_ble_eq_true rfl) rfl dX5_weeks_17 ?_
      refine jw_ifb_ne (pc := 20) (tgt := 26) C dX5_weeks_20 (by decide) (fun c_20 => ?_) (fun c_20 => ?_)
      · -- 20 t
        obtain ⟨kd, rfl⟩ : ∃ kd : Nat, dd = ((kd : Nat) : Int) := ⟨(dd).toNat, by omega⟩
        refine jw_aload_n (pc := 26) C dX5_weeks_26 0 rfl ?_
        refine jw_callRV (pc := 27) C [] [] 0 (con_X5_hasColony lau D cI cB g pg ki nh rd a kp ik no su (by omega)) gX5_weeks_X5_hasColony rfl rfl rfl (by decide +kernel) ⟨Nat.le_of_ble_eq_true rfl, Nat.le_of_ble_eq_true rfl⟩ 0 rfl rfl [0] rfl rfl (Nat.le_of_ble_eq_true rfl) rfl dX5_weeks_27 ?_
        refine jw_ifb_ne (pc := 30) (tgt := 36) C dX5_weeks_30 (by decide) (fun c_30 => ?_) (fun c_30 => ?_)
        · -- 30 t
          refine jw_iload_n (pc := 36) C dX5_weeks_36 2 rfl ?_
          refine jw_istore (pc := 37) (lv' := [(4, .int (jI sd0)), (0, .ref g), (1, .int (jI ((kd : Nat) : Int))), (2, .int (jI sd0)), (3, .int (jI w))]) C dX5_weeks_37 (by decide) rfl ?_
          refine jw_iconst (pc := 39) C dX5_weeks_39 ?_
          refine jw_istore (pc := 40) (lv' := [(5, .int (jI 0)), (4, .int (jI sd0)), (0, .ref g), (1, .int (jI ((kd : Nat) : Int))), (2, .int (jI sd0)), (3, .int (jI w))]) C dX5_weeks_40 (by decide) rfl ?_
          refine jw_iconst (pc := 42) C dX5_weeks_42 ?_
          refine jw_istore (pc := 43) (lv' := [(6, .int (jI 0)), (5, .int (jI 0)), (4, .int (jI sd0)), (0, .ref g), (1, .int (jI ((kd : Nat) : Int))), (2, .int (jI sd0)), (3, .int (jI w))]) C dX5_weeks_43 (by decide) rfl ?_
          refine jw_iconst (pc := 45) C dX5_weeks_45 ?_
          refine jw_istore (pc := 46) (lv' := [(7, .int (jI 0)), (6, .int (jI 0)), (5, .int (jI 0)), (4, .int (jI sd0)), (0, .ref g), (1, .int (jI ((kd : Nat) : Int))), (2, .int (jI sd0)), (3, .int (jI w))]) C dX5_weeks_46 (by decide) rfl ?_
          have lp_48_1 : ∀ (fu : Nat) (yy : Nat) (nx : Int) (tr : Nat) (hi : Int) (c : Nat → Int), (yy ≤ kd) → (nx = sp_wsd sd0 n yy) → (0 ≤ nx ∧ nx < 2147483648) → (tr = sp_wout K V nh sd0 SL n yy) → (hi = sp_whi sd0 SL n yy) → kd - yy < fu → jW X 48 [(0, .ref g), (1, .int (jI ((kd : Nat) : Int))), (2, .int (jI sd0)), (3, .int (jI w)), (4, .int (jI nx)), (5, .int (jI ((tr : Nat) : Int))), (6, .int (jI hi)), (7, .int (jI ((yy : Nat) : Int)))] [] [oG g pg ki ((nh : Nat) : Int) rd a kp ik no su, aI cI ki 5 K, oA a le s h ch, aI cI le 5 V, oS s hr lo ((n : Nat) : Int), aI cI hr 6 SH, aI cI lo 6 SL, oT su qs, aI cI qs 12 c] := by
            intro fu
            induction fu with
            | zero => intro yy nx tr hi c hyy hnx hnb htr hhi hm; exact absurd hm (Nat.not_lt_zero _)
            | succ fu ih_2 =>
              intro yy nx tr hi c hyy hnx hnb htr hhi hm
              refine jw_iload (pc := 48) C dX5_weeks_48 7 rfl ?_
              refine jw_iload_n (pc := 50) C dX5_weeks_50 1 rfl ?_
              refine jw_icmp_ge (pc := 51) (tgt := 96) C dX5_weeks_51 (by decide) (by omega) (by omega) (fun c_51 => ?_) (fun c_51 => ?_)
              · -- 51 t
                rw [show yy = kd by omega] at hnx htr hhi
                refine jw_iload_n (pc := 96) C dX5_weeks_96 3 rfl ?_
                by_cases sw_97_0 : w = 0
                · -- case 0
                  refine jw_lookup (pc := 97) (tgt := 124) C dX5_weeks_97 (by decide) (by omega) (by rw [sw_97_0] <;> rfl) (by decide) ?_
                  refine jw_iload (pc := 124) C dX5_weeks_124 5 rfl ?_
                  exact jw_iretW (pc := 126) C E dX5_weeks_126 ((c)) (congrArg (fun z => some (Value.int (jI z))) (by unfold sp_weeks sp_weeksv; (try simp only [Int.toNat_natCast]); (repeat' split) <;> omega)) trivial rfl
                ·
                  by_cases sw_97_1 : w = 1
                  · -- case 1
                    refine jw_lookup (pc := 97) (tgt := 127) C dX5_weeks_97 (by decide) (by omega) (by rw [sw_97_1] <;> rfl) (by decide) ?_
                    refine jw_iload (pc := 127) C dX5_weeks_127 6 rfl ?_
                    exact jw_iretW (pc := 129) C E dX5_weeks_129 ((c)) (congrArg (fun z => some (Value.int (jI z))) (by unfold sp_weeks sp_weeksv; (try simp only [Int.toNat_natCast]); (repeat' split) <;> omega)) trivial rfl
                  ·
                    refine jw_lookup (pc := 97) (tgt := 130) (off := 33) C dX5_weeks_97 (by decide) (by omega) (by first | (simp only [Op.lookupswitch.offset]; (repeat' split) <;> omega) | (simp [Op.lookupswitch.offset]; omega)) (by decide) ?_
                    refine jw_iload (pc := 130) C dX5_weeks_130 4 rfl ?_
                    exact jw_iretW (pc := 132) C E dX5_weeks_132 ((c)) (congrArg (fun z => some (Value.int (jI z))) (by unfold sp_weeks sp_weeksv; (try simp only [Int.toNat_natCast]); (repeat' split) <;> omega)) trivial rfl
              · -- 51 f
                refine jw_aload_n (pc := 54) C dX5_weeks_54 0 rfl ?_
                refine jw_iload (pc := 55) C dX5_weeks_55 4 rfl ?_
                refine jw_callWV (pc := 57) C [.int (jI nx)] [] 1 (con_X5_drawDay lau D cI cB g pg ki nh rd a kp ik no su le s h ch hr lo n SH SL qs c nx (by omega) hS (by omega)) gX5_weeks_X5_drawDay rfl rfl rfl (by decide +kernel) ⟨Nat.le_of_ble_eq_true rfl, Nat.le_of_ble_eq_true rfl⟩ 0 rfl rfl [0, 2, 4, 5, 6, 7, 8] [1, 3] [2, 0, 3, 1, 4, 5, 6, 7, 8] (wr := [aI cI ki 5 K, aI cI le 5 V]) rfl rfl (by decide) (by decide) (fun _ => rfl) (wN := fun u_57_3 => [oG g pg ki ((nh : Nat) : Int) rd a kp ik no su, aI cI ki 5 K, oA a le s h ch, aI cI le 5 V, oS s hr lo ((n : Nat) : Int), aI cI hr 6 SH, aI cI lo 6 SL, oT su qs, aI cI qs 12 (sp_sum (sp_dr nx) SL n)]) (fun _ => rfl) (stN := fun u_57_3 => [.int (jI (sp_sd nx n))]) (fun _ => rfl) rfl (Nat.le_of_ble_eq_true rfl) rfl dX5_weeks_57 (fun u_57_3 hu_57_3 => ?_)
                have b_57_0 := sp_sd_b (by omega) n
                refine jw_istore (pc := 60) (lv' := [(4, .int (jI (sp_sd nx n))), (0, .ref g), (1, .int (jI ((kd : Nat) : Int))), (2, .int (jI sd0)), (3, .int (jI w)), (5, .int (jI ((tr : Nat) : Int))), (6, .int (jI hi)), (7, .int (jI ((yy : Nat) : Int)))]) C dX5_weeks_60 (by decide) rfl ?_
                refine jw_iload (pc := 62) C dX5_weeks_62 5 rfl ?_
                refine jw_aload_n (pc := 64) C dX5_weeks_64 1 rfl ?_
                refine jw_iconst (pc := 65) C dX5_weeks_65 ?_
                refine jw_aload_n (pc := 66) C dX5_weeks_66 1 rfl ?_
                refine jw_get (pc := 67) C hi_X5_weeks_X5 0 rfl rfl 8 (by decide) fl_X5_weeks_37 rfl rfl dX5_weeks_67 ?_
                refine jw_callRV (pc := 70) C [.int (jI 0), .ref su] [.int (jI ((tr : Nat) : Int))] 2 (con_X5_hoursOfAll lau D cI cB g pg ki nh rd a kp ik no su K le s h ch V su qs (sp_sum (sp_dr nx) SL n) 0 (by omega) (by omega) hK hV (sp_99 (sp_sum_99 h2 (fun x hx => (hS x hx).2.2)))) gX5_weeks_X5_hoursOfAll rfl rfl rfl (by decide +kernel) ⟨Nat.le_of_ble_eq_true rfl, Nat.le_of_ble_eq_true rfl⟩ 0 rfl rfl [0, 1, 2, 3, 7, 8] rfl rfl (Nat.le_of_ble_eq_true rfl) rfl dX5_weeks_70 ?_
                have b_70_0 := sp_all_b K V (sp_sum (sp_dr nx) SL n) 0 nh
                refine jw_iadd (pc := 73) (z := ((tr + (sp_all K V (sp_sum (sp_dr nx) SL n) 0 nh) : Nat) : Int)) C dX5_weeks_73 (by omega) ?_
                refine jw_istore (pc := 74) (lv' := [(5, .int (jI ((tr + (sp_all K V (sp_sum (sp_dr nx) SL n) 0 nh) : Nat) : Int))), (4, .int (jI (sp_sd nx n))), (0, .ref g), (1, .int (jI ((kd : Nat) : Int))), (2, .int (jI sd0)), (3, .int (jI w)), (6, .int (jI hi)), (7, .int (jI ((yy : Nat) : Int)))]) C dX5_weeks_74 (by decide) rfl ?_
                refine jw_iload (pc := 76) C dX5_weeks_76 6 rfl ?_
                refine jw_aload_n (pc := 78) C dX5_weeks_78 2 rfl ?_
                refine jw_get (pc := 79) C hi_X5_weeks_X5 0 rfl rfl 8 (by decide) fl_X5_weeks_37 rfl rfl dX5_weeks_79 ?_
                refine jw_bipush (pc := 82) C dX5_weeks_82 (by decide +kernel) ?_
                refine jw_callRV (pc := 84) C [.int (jI 11)] [.int (jI hi)] 1 (con_X4_at lau D cI cB su qs (sp_sum (sp_dr nx) SL n) 11 (by omega) (sp_99 (sp_sum_99 h2 (fun x hx => (hS x hx).2.2)))) gX5_weeks_X4_at rfl rfl rfl (by decide +kernel) ⟨Nat.le_of_ble_eq_true rfl, Nat.le_of_ble_eq_true rfl⟩ 7 rfl rfl [7, 8] rfl rfl (Nat.le_of_ble_eq_true rfl) rfl dX5_weeks_84 ?_
                have b_84_0 := (sp_at_b (sp_99 (sp_sum_99 h2 (fun x hx => (hS x hx).2.2))) (by omega) : 0 ≤ sp_at (sp_sum (sp_dr nx) SL n) 11 ∧ sp_at (sp_sum (sp_dr nx) SL n) 11 ≤ 20)
                refine jw_top (y := jI (sp_cap (sp_sum (sp_dr nx) SL n 11))) (congrArg jI (sp_at_nat _ 11)) ?_
                refine jw_iadd (pc := 87) (z := (hi + (sp_cap (sp_sum (sp_dr nx) SL n 11)))) C dX5_weeks_87 rfl ?_
                refine jw_istore (pc := 88) (lv' := [(6, .int (jI (hi + (sp_cap (sp_sum (sp_dr nx) SL n 11))))), (5, .int (jI ((tr + (sp_all K V (sp_sum (sp_dr nx) SL n) 0 nh) : Nat) : Int))), (4, .int (jI (sp_sd nx n))), (0, .ref g), (1, .int (jI ((kd : Nat) : Int))), (2, .int (jI sd0)), (3, .int (jI w)), (7, .int (jI ((yy : Nat) : Int)))]) C dX5_weeks_88 (by decide) rfl ?_
                refine jw_iinc (pc := 90) (z := ((yy + 1 : Nat) : Int)) (lv' := [(7, .int (jI ((yy + 1 : Nat) : Int))), (6, .int (jI (hi + (sp_cap (sp_sum (sp_dr nx) SL n 11))))), (5, .int (jI ((tr + (sp_all K V (sp_sum (sp_dr nx) SL n) 0 nh) : Nat) : Int))), (4, .int (jI (sp_sd nx n))), (0, .ref g), (1, .int (jI ((kd : Nat) : Int))), (2, .int (jI sd0)), (3, .int (jI w))]) C dX5_weeks_90 7 rfl (by omega) (by decide) rfl ?_
                refine jw_goto (pc := 93) (tgt := 48) C dX5_weeks_93 (by decide) ?_
                refine jw_lv [4, 5, 6, 7, 3, 2, 1, 0] rfl ?_
                exact ih_2 (yy + 1) ((sp_sd nx n)) (tr + (sp_all K V (sp_sum (sp_dr nx) SL n) 0 nh)) ((hi + (sp_cap (sp_sum (sp_dr nx) SL n 11)))) (sp_sum (sp_dr nx) SL n) (by omega) (by rw [hnx]; rfl) (by omega) (by rw [htr, hnx]; rfl) (by rw [hhi, hnx]; rfl) (by omega)
          refine jw_lv [4, 5, 6, 7, 3, 2, 1, 0] rfl ?_
          exact lp_48_1 ((kd - 0) + 1) 0 sd0 0 0 g0 (by omega) rfl (by omega) rfl rfl (Nat.lt_succ_self _)
        · -- 30 f
          refine jw_bipush (pc := 33) C dX5_weeks_33 (by decide +kernel) ?_
          exact jw_iretW (pc := 35) C E dX5_weeks_35 ((g0)) (congrArg (fun z => some (Value.int (jI z))) (by unfold sp_weeks sp_weeksv; (try simp only [Int.toNat_natCast]); (repeat' split) <;> omega)) trivial rfl
      · -- 20 f
        refine jw_bipush (pc := 23) C dX5_weeks_23 (by decide +kernel) ?_
        exact jw_iretW (pc := 25) C E dX5_weeks_25 ((g0)) (congrArg (fun z => some (Value.int (jI z))) (by unfold sp_weeks sp_weeksv; (try simp only [Int.toNat_natCast]); (repeat' split) <;> omega)) trivial rfl
theorem fl_X5_count_10 : Cond.fieldLink RX5 10 "GongTide" "page" "LGongTide$Page;" ∈ wsX5_count := by decide +kernel
theorem fl_X5_count_23 : Cond.fieldLink RX5 23 "GongTide" "affairs" "LGongTide$Affairs;" ∈ wsX5_count := by decide +kernel
theorem fl_X5_count_65 : Cond.fieldLink RX5 65 "GongTide" "houseCount" "I" ∈ wsX5_count := by decide +kernel
theorem fl_X5_count_86 : Cond.fieldLink RX5 86 "GongTide$Affairs" "strokes" "LGongTide$Strokes;" ∈ wsX5_count := by decide +kernel
theorem fl_X5_count_100 : Cond.fieldLink RX5 100 "GongTide" "readings" "I" ∈ wsX5_count := by decide +kernel
theorem fl_X5_count_128 : Cond.fieldLink RX5 128 "GongTide$Affairs" "changes" "I" ∈ wsX5_count := by decide +kernel
theorem fl_X5_count_171 : Cond.fieldLink RX5 171 "GongTide$Affairs" "heard" "LGongTide$Heard;" ∈ wsX5_count := by decide +kernel
theorem hi_X5_count_X0 : ∀ w ∈ wsX00, w ∈ wsX5_count := fun w h => List.mem_cons_of_mem _ (List.mem_append_left _ (List.mem_append_left _ (List.mem_append_left _ (List.mem_append_left _ (List.mem_append_right _ h)))))
theorem hi_X5_count_X5 : ∀ w ∈ wsX50, w ∈ wsX5_count := fun w h => List.mem_cons_of_mem _ (List.mem_append_left _ (List.mem_append_left _ (List.mem_append_left _ (List.mem_append_left _ (List.mem_append_left _ (List.mem_append_right _ h))))))
def rmX5_count : Room := { frames := 5, cells := 0, slots := 0, locals := 117 }
set_option maxHeartbeats 4000000 in
set_option maxRecDepth 100000 in
theorem con_X5_count (lau : Launch) (D : va_G) (cI cB : ClassId) (g : Nat) (pg : Nat) (ki : Nat) (nh : Nat) (rd : Int) (a : Nat) (kp : Nat) (ik : Int) (no : Nat) (su : Nat) (K : Nat → Int) (le : Nat) (s : Nat) (h : Nat) (ch : Int) (V : Nat → Int) (hr : Nat) (lo : Nat) (n : Nat) (SH : Nat → Int) (SL : Nat → Int) (pq : Nat) (pn : Nat) (hh : Nat) (hq : Nat) (hl : Nat) (hw : Nat) (m : Nat) (qn : Nat) (f0 : Nat → Int) (w : Int) (hnh : nh ≤ 5) (h2 : n ≤ 6) (hS : ∀ x, x < n → 0 ≤ SH x ∧ SH x ≤ 9 ∧ 0 ≤ SL x ∧ SL x ≤ 9) (hK : ∀ x, x < 5 → 0 ≤ K x ∧ K x ≤ 4) (hV : ∀ x, x < 5 → 0 ≤ V x ∧ V x ≤ 9) (hwr : -2147483648 ≤ w ∧ w < 2147483648) : jMW (S := Nat → Int) lau yX5_count wsX5_count rmX5_count D cI cB [.ref g, .int (jI w)] [oG g pg ki ((nh : Nat) : Int) rd a kp ik no su, aI cI ki 5 K, oA a le s h ch, aI cI le 5 V, oS s hr lo ((n : Nat) : Int), aI cI hr 6 SH, aI cI lo 6 SL, oP pg pq ((pn : Nat) : Int), oH h hh hq hl hw ((m : Nat) : Int), oT no qn, aI cI qn 12 f0] (fun u => some (.int (jI (sp_count nh n K V (sp_sum SH SL n) ch m pn rd w)))) (fun u => True) (fun u => [oG g pg ki ((nh : Nat) : Int) rd a kp ik no su, aI cI ki 5 K, oA a le s h ch, aI cI le 5 V, oS s hr lo ((n : Nat) : Int), aI cI hr 6 SH, aI cI lo 6 SL, oP pg pq ((pn : Nat) : Int), oH h hh hq hl hw ((m : Nat) : Int), oT no qn, aI cI qn 12 u]) := by
  refine jMW.of (own := RX5) (cc := cX5_count) (maxL := 2) (ret := (some .int)) rfl (by decide) rfl (Nat.le_of_ble_eq_true rfl) ?_
  intro X C E
  refine jw_lv (lv' := [(0, .ref g), (1, .int (jI w))]) [0, 1] rfl ?_
  have hR54 := sp_sum_99 (SH := SH) (SL := SL) (n := n) h2 (fun x hx => (hS x hx).2.2)
  have hR99 := sp_99 hR54
  refine jw_iload_n (pc := 0) C dX5_count_0 1 rfl ?_
  by_cases sw_1_0 : w = 0
  · -- case 0
    refine jw_table (pc := 1) (tgt := 52) C dX5_count_1 (by omega) (by omega) (by omega) (by rw [sw_1_0]; rfl) (by decide) ?_
    refine jw_aload_n (pc := 52) C dX5_count_52 0 rfl ?_
    refine jw_get (pc := 53) C hi_X5_count_X5 0 rfl rfl 2 (by decide) fl_X5_count_65 rfl rfl dX5_count_53 ?_
    exact jw_iretW (pc := 56) C E dX5_count_56 ((f0)) (congrArg (fun z => some (Value.int (jI z))) (by unfold sp_count; (repeat' split) <;> first | rfl | omega)) trivial rfl
  ·
    by_cases sw_1_1 : w = 1
    · -- case 1
      refine jw_table (pc := 1) (tgt := 57) C dX5_count_1 (by omega) (by omega) (by omega) (by rw [sw_1_1]; rfl) (by decide) ?_
      refine jw_aload_n (pc := 57) C dX5_count_57 0 rfl ?_
      refine jw_get (pc := 58) C hi_X5_count_X5 0 rfl rfl 4 (by decide) fl_X5_count_23 rfl rfl dX5_count_58 ?_
      refine jw_get (pc := 61) C hi_X5_count_X0 2 rfl rfl 1 (by decide) fl_X5_count_86 rfl rfl dX5_count_61 ?_
      refine jw_callRV (pc := 64) C [] [] 0 (con_X3_size lau D cI cB s hr lo n ) gX5_count_X3_size rfl rfl rfl (by decide +kernel) ⟨Nat.le_of_ble_eq_true rfl, Nat.le_of_ble_eq_true rfl⟩ 4 rfl rfl [4] rfl rfl (Nat.le_of_ble_eq_true rfl) rfl dX5_count_64 ?_
      exact jw_iretW (pc := 67) C E dX5_count_67 ((f0)) (congrArg (fun z => some (Value.int (jI z))) (by unfold sp_count; (repeat' split) <;> first | rfl | omega)) trivial rfl
    ·
      by_cases sw_1_2 : w = 2
      · -- case 2
        refine jw_table (pc := 1) (tgt := 68) C dX5_count_1 (by omega) (by omega) (by omega) (by rw [sw_1_2]; rfl) (by decide) ?_
        refine jw_aload_n (pc := 68) C dX5_count_68 0 rfl ?_
        refine jw_callWV (pc := 69) C [] [] 0 (con_X5_tideNow lau D cI cB g pg ki nh rd a kp ik no su le s h ch hr lo n SH SL qn f0 (by omega) hS) gX5_count_X5_tideNow rfl rfl rfl (by decide +kernel) ⟨Nat.le_of_ble_eq_true rfl, Nat.le_of_ble_eq_true rfl⟩ 0 rfl rfl [0, 2, 4, 5, 6, 9, 10] [1, 3, 7, 8] [4, 0, 5, 1, 6, 7, 8, 2, 3, 9, 10] (wr := [aI cI ki 5 K, aI cI le 5 V, oP pg pq ((pn : Nat) : Int), oH h hh hq hl hw ((m : Nat) : Int)]) rfl rfl (by decide) (by decide) (fun _ => rfl) (wN := fun u_69_1 => [oG g pg ki ((nh : Nat) : Int) rd a kp ik no su, aI cI ki 5 K, oA a le s h ch, aI cI le 5 V, oS s hr lo ((n : Nat) : Int), aI cI hr 6 SH, aI cI lo 6 SL, oP pg pq ((pn : Nat) : Int), oH h hh hq hl hw ((m : Nat) : Int), oT no qn, aI cI qn 12 (sp_sum SH SL n)]) (fun _ => rfl) (stN := fun u_69_1 => [.ref no]) (fun _ => rfl) rfl (Nat.le_of_ble_eq_true rfl) rfl dX5_count_69 (fun u_69_1 hu_69_1 => ?_)
        refine jw_callRV (pc := 72) C [] [] 0 (con_X4_greatest lau D cI cB no qn (sp_sum SH SL n) hR99) gX5_count_X4_greatest rfl rfl rfl (by decide +kernel) ⟨Nat.le_of_ble_eq_true rfl, Nat.le_of_ble_eq_true rfl⟩ 9 rfl rfl [9, 10] rfl rfl (Nat.le_of_ble_eq_true rfl) rfl dX5_count_72 ?_
        exact jw_iretW (pc := 75) C E dX5_count_75 ((sp_sum SH SL n)) (congrArg (fun z => some (Value.int (jI z))) (by unfold sp_count; (repeat' split) <;> first | rfl | omega)) trivial rfl
      ·
        by_cases sw_1_3 : w = 3
        · -- case 3
          refine jw_table (pc := 1) (tgt := 76) C dX5_count_1 (by omega) (by omega) (by omega) (by rw [sw_1_3]; rfl) (by decide) ?_
          refine jw_aload_n (pc := 76) C dX5_count_76 0 rfl ?_
          refine jw_iconst (pc := 77) C dX5_count_77 ?_
          refine jw_aload_n (pc := 78) C dX5_count_78 0 rfl ?_
          refine jw_callWV (pc := 79) C [] [.int (jI 0), .ref g] 0 (con_X5_tideNow lau D cI cB g pg ki nh rd a kp ik no su le s h ch hr lo n SH SL qn f0 (by omega) hS) gX5_count_X5_tideNow rfl rfl rfl (by decide +kernel) ⟨Nat.le_of_ble_eq_true rfl, Nat.le_of_ble_eq_true rfl⟩ 0 rfl rfl [0, 2, 4, 5, 6, 9, 10] [1, 3, 7, 8] [4, 0, 5, 1, 6, 7, 8, 2, 3, 9, 10] (wr := [aI cI ki 5 K, aI cI le 5 V, oP pg pq ((pn : Nat) : Int), oH h hh hq hl hw ((m : Nat) : Int)]) rfl rfl (by decide) (by decide) (fun _ => rfl) (wN := fun u_79_2 => [oG g pg ki ((nh : Nat) : Int) rd a kp ik no su, aI cI ki 5 K, oA a le s h ch, aI cI le 5 V, oS s hr lo ((n : Nat) : Int), aI cI hr 6 SH, aI cI lo 6 SL, oP pg pq ((pn : Nat) : Int), oH h hh hq hl hw ((m : Nat) : Int), oT no qn, aI cI qn 12 (sp_sum SH SL n)]) (fun _ => rfl) (stN := fun u_79_2 => [.ref no, .int (jI 0), .ref g]) (fun _ => rfl) rfl (Nat.le_of_ble_eq_true rfl) rfl dX5_count_79 (fun u_79_2 hu_79_2 => ?_)
          refine jw_callRV (pc := 82) C [.int (jI 0), .ref no] [] 2 (con_X5_hoursOfAll lau D cI cB g pg ki nh rd a kp ik no su K le s h ch V no qn (sp_sum SH SL n) 0 (by omega) (by omega) hK hV hR99) gX5_count_X5_hoursOfAll rfl rfl rfl (by decide +kernel) ⟨Nat.le_of_ble_eq_true rfl, Nat.le_of_ble_eq_true rfl⟩ 0 rfl rfl [0, 1, 2, 3, 9, 10] rfl rfl (Nat.le_of_ble_eq_true rfl) rfl dX5_count_82 ?_
          have b_82_0 := sp_all_b K V (sp_sum SH SL n) 0 nh
          exact jw_iretW (pc := 85) C E dX5_count_85 ((sp_sum SH SL n)) (congrArg (fun z => some (Value.int (jI z))) (by unfold sp_count; (repeat' split) <;> first | rfl | omega)) trivial rfl
        ·
          by_cases sw_1_4 : w = 4
          · -- case 4
            refine jw_table (pc := 1) (tgt := 86) C dX5_count_1 (by omega) (by omega) (by omega) (by rw [sw_1_4]; rfl) (by decide) ?_
            refine jw_aload_n (pc := 86) C dX5_count_86 0 rfl ?_
            refine jw_iconst (pc := 87) C dX5_count_87 ?_
            refine jw_aload_n (pc := 88) C dX5_count_88 0 rfl ?_
            refine jw_callWV (pc := 89) C [] [.int (jI 2), .ref g] 0 (con_X5_tideNow lau D cI cB g pg ki nh rd a kp ik no su le s h ch hr lo n SH SL qn f0 (by omega) hS) gX5_count_X5_tideNow rfl rfl rfl (by decide +kernel) ⟨Nat.le_of_ble_eq_true rfl, Nat.le_of_ble_eq_true rfl⟩ 0 rfl rfl [0, 2, 4, 5, 6, 9, 10] [1, 3, 7, 8] [4, 0, 5, 1, 6, 7, 8, 2, 3, 9, 10] (wr := [aI cI ki 5 K, aI cI le 5 V, oP pg pq ((pn : Nat) : Int), oH h hh hq hl hw ((m : Nat) : Int)]) rfl rfl (by decide) (by decide) (fun _ => rfl) (wN := fun u_89_3 => [oG g pg ki ((nh : Nat) : Int) rd a kp ik no su, aI cI ki 5 K, oA a le s h ch, aI cI le 5 V, oS s hr lo ((n : Nat) : Int), aI cI hr 6 SH, aI cI lo 6 SL, oP pg pq ((pn : Nat) : Int), oH h hh hq hl hw ((m : Nat) : Int), oT no qn, aI cI qn 12 (sp_sum SH SL n)]) (fun _ => rfl) (stN := fun u_89_3 => [.ref no, .int (jI 2), .ref g]) (fun _ => rfl) rfl (Nat.le_of_ble_eq_true rfl) rfl dX5_count_89 (fun u_89_3 hu_89_3 => ?_)
            refine jw_callRV (pc := 92) C [.int (jI 2), .ref no] [] 2 (con_X5_hoursOfAll lau D cI cB g pg ki nh rd a kp ik no su K le s h ch V no qn (sp_sum SH SL n) 2 (by omega) (by omega) hK hV hR99) gX5_count_X5_hoursOfAll rfl rfl rfl (by decide +kernel) ⟨Nat.le_of_ble_eq_true rfl, Nat.le_of_ble_eq_true rfl⟩ 0 rfl rfl [0, 1, 2, 3, 9, 10] rfl rfl (Nat.le_of_ble_eq_true rfl) rfl dX5_count_92 ?_
            have b_92_0 := sp_all_b K V (sp_sum SH SL n) 2 nh
            exact jw_iretW (pc := 95) C E dX5_count_95 ((sp_sum SH SL n)) (congrArg (fun z => some (Value.int (jI z))) (by unfold sp_count; (repeat' split) <;> first | rfl | omega)) trivial rfl
          ·
            by_cases sw_1_5 : w = 5
            · -- case 5
              refine jw_table (pc := 1) (tgt := 96) C dX5_count_1 (by omega) (by omega) (by omega) (by rw [sw_1_5]; rfl) (by decide) ?_
              refine jw_aload_n (pc := 96) C dX5_count_96 0 rfl ?_
              refine jw_get (pc := 97) C hi_X5_count_X5 0 rfl rfl 4 (by decide) fl_X5_count_23 rfl rfl dX5_count_97 ?_
              refine jw_get (pc := 100) C hi_X5_count_X0 2 rfl rfl 3 (by decide) fl_X5_count_128 rfl rfl dX5_count_100 ?_
              exact jw_iretW (pc := 103) C E dX5_count_103 ((f0)) (congrArg (fun z => some (Value.int (jI z))) (by unfold sp_count; (repeat' split) <;> first | rfl | omega)) trivial rfl
            ·
              by_cases sw_1_6 : w = 6
              · -- case 6
                refine jw_table (pc := 1) (tgt := 104) C dX5_count_1 (by omega) (by omega) (by omega) (by rw [sw_1_6]; rfl) (by decide) ?_
                refine jw_aload_n (pc := 104) C dX5_count_104 0 rfl ?_
                refine jw_get (pc := 105) C hi_X5_count_X5 0 rfl rfl 4 (by decide) fl_X5_count_23 rfl rfl dX5_count_105 ?_
                refine jw_get (pc := 108) C hi_X5_count_X0 2 rfl rfl 2 (by decide) fl_X5_count_171 rfl rfl dX5_count_108 ?_
                refine jw_callRV (pc := 111) C [] [] 0 (con_X1_size lau D cI cB h hh hq hl hw m ) gX5_count_X1_size rfl rfl rfl (by decide +kernel) ⟨Nat.le_of_ble_eq_true rfl, Nat.le_of_ble_eq_true rfl⟩ 8 rfl rfl [8] rfl rfl (Nat.le_of_ble_eq_true rfl) rfl dX5_count_111 ?_
                exact jw_iretW (pc := 114) C E dX5_count_114 ((f0)) (congrArg (fun z => some (Value.int (jI z))) (by unfold sp_count; (repeat' split) <;> first | rfl | omega)) trivial rfl
              ·
                by_cases sw_1_7 : w = 7
                · -- case 7
                  refine jw_table (pc := 1) (tgt := 115) C dX5_count_1 (by omega) (by omega) (by omega) (by rw [sw_1_7]; rfl) (by decide) ?_
                  refine jw_aload_n (pc := 115) C dX5_count_115 0 rfl ?_
                  refine jw_get (pc := 116) C hi_X5_count_X5 0 rfl rfl 0 (by decide) fl_X5_count_10 rfl rfl dX5_count_116 ?_
                  refine jw_callRV (pc := 119) C [] [] 0 (con_X2_size lau D cI cB pg pq pn ) gX5_count_X2_size rfl rfl rfl (by decide +kernel) ⟨Nat.le_of_ble_eq_true rfl, Nat.le_of_ble_eq_true rfl⟩ 7 rfl rfl [7] rfl rfl (Nat.le_of_ble_eq_true rfl) rfl dX5_count_119 ?_
                  exact jw_iretW (pc := 122) C E dX5_count_122 ((f0)) (congrArg (fun z => some (Value.int (jI z))) (by unfold sp_count; (repeat' split) <;> first | rfl | omega)) trivial rfl
                ·
                  by_cases sw_1_8 : w = 8
                  · -- case 8
                    refine jw_table (pc := 1) (tgt := 123) C dX5_count_1 (by omega) (by omega) (by omega) (by rw [sw_1_8]; rfl) (by decide) ?_
                    refine jw_aload_n (pc := 123) C dX5_count_123 0 rfl ?_
                    refine jw_get (pc := 124) C hi_X5_count_X5 0 rfl rfl 3 (by decide) fl_X5_count_100 rfl rfl dX5_count_124 ?_
                    exact jw_iretW (pc := 127) C E dX5_count_127 ((f0)) (congrArg (fun z => some (Value.int (jI z))) (by unfold sp_count; (repeat' split) <;> first | rfl | omega)) trivial rfl
                  ·
                    refine jw_tableOut (pc := 1) (tgt := 128) C dX5_count_1 (by omega) (by omega) (by decide) ?_
                    refine jw_bipush (pc := 128) C dX5_count_128 (by decide +kernel) ?_
                    exact jw_iretW (pc := 130) C E dX5_count_130 ((f0)) (congrArg (fun z => some (Value.int (jI z))) (by unfold sp_count; (repeat' split) <;> first | rfl | omega)) trivial rfl
