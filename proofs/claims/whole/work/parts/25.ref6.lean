def rmX6_fault : Room := { frames := 3, cells := 0, slots := 0, locals := 65 }
set_option maxHeartbeats 4000000 in
set_option maxRecDepth 100000 in
theorem con_X6_fault (lau : Launch) (D : va_G) (cI cB : ClassId) (g : Nat) (co : Int) (nh : Nat) (qk : Nat) (qv : Nat) (ns : Nat) (qh : Nat) (ql : Nat) (ch : Int) (hd : Nat) (q9 : Nat) (q10 : Nat) (q11 : Nat) (q12 : Nat) (pl : Nat) (qp : Nat) (th : Nat) (sd : Int64) (qs : Nat) (ik : Int) (kc : Int) (ks : Nat) (kg : Int) (kh : Nat) (k26 : Nat) (k27 : Nat) (k28 : Nat) (k29 : Nat) (k30 : Nat) (k31 : Nat) (k32 : Nat) (hx : Int64) (iw : Int) (nw : Int) (nz : Int) (P : Nat → Int) (hpl : pl ≤ 25) (hP : ∀ k, k < pl → 32 ≤ P k ∧ P k ≤ 126) : jMW (S := Int × Int) lau yX6_fault wsX6_fault rmX6_fault D cI cB [.ref g] [oM g co ((nh : Nat) : Int) qk qv ((ns : Nat) : Int) qh ql ch ((hd : Nat) : Int) q9 q10 q11 q12 ((pl : Nat) : Int) qp iw nw nz ((th : Nat) : Int) sd qs ik kc ((ks : Nat) : Int) kg ((kh : Nat) : Int) k26 k27 k28 k29 k30 k31 k32 hx, aI cB qp 25 P] (fun u => some (.int (jI ((sp_fault P pl : Nat) : Int)))) (fun u => True) (fun u => [oM g co ((nh : Nat) : Int) qk qv ((ns : Nat) : Int) qh ql ch ((hd : Nat) : Int) q9 q10 q11 q12 ((pl : Nat) : Int) qp (jb (sp_whole P pl = true)) u.1 u.2 ((th : Nat) : Int) sd qs ik kc ((ks : Nat) : Int) kg ((kh : Nat) : Int) k26 k27 k28 k29 k30 k31 k32 hx, aI cB qp 25 P]) := by
  refine jMW.of (own := RX6) (cc := cX6_fault) (maxL := 1) (ret := (some .int)) rfl (by decide) rfl (Nat.le_of_ble_eq_true rfl) ?_
  intro X C E
  refine jw_lv (lv' := [(0, .ref g)]) [0] rfl ?_
  refine jw_aload_n (pc := 0) C dX6_fault_0 0 rfl ?_
  refine jw_callWV (pc := 1) C [] [] 0 (con_X6_read lau D cI cB g co nh qk qv ns qh ql ch hd q9 q10 q11 q12 pl qp th sd qs ik kc ks kg kh k26 k27 k28 k29 k30 k31 k32 hx iw nw nz P (by omega) hP) gX6_fault_X6_read rfl rfl rfl (by decide +kernel) ⟨Nat.le_of_ble_eq_true rfl, Nat.le_of_ble_eq_true rfl⟩ 0 rfl rfl [0, 1] [] [0, 1] (wr := []) rfl rfl (by decide) (by decide) (fun _ => rfl) (wN := fun u_1_1 => [oM g co ((nh : Nat) : Int) qk qv ((ns : Nat) : Int) qh ql ch ((hd : Nat) : Int) q9 q10 q11 q12 ((pl : Nat) : Int) qp (jb (sp_whole P pl = true)) u_1_1.1 u_1_1.2 ((th : Nat) : Int) sd qs ik kc ((ks : Nat) : Int) kg ((kh : Nat) : Int) k26 k27 k28 k29 k30 k31 k32 hx, aI cB qp 25 P]) (fun _ => rfl) (stN := fun u_1_1 => [.int (jI ((sp_fault P pl : Nat) : Int))]) (fun _ => rfl) rfl (Nat.le_of_ble_eq_true rfl) rfl dX6_fault_1 (fun u_1_1 hu_1_1 => ?_)
  (try dsimp only at hu_1_1)
  exact jw_iretW (pc := 4) C E dX6_fault_4 ((u_1_1.1, u_1_1.2)) rfl trivial rfl
theorem fl_X6_colony_7 : Cond.fieldLink RX6 7 "GongTideModel" "kindOf" "[I" ∈ wsX6_colony := by decide +kernel
theorem fl_X6_colony_13 : Cond.fieldLink RX6 13 "GongTideModel" "levelOf" "[I" ∈ wsX6_colony := by decide +kernel
theorem fl_X6_colony_16 : Cond.fieldLink RX6 16 "GongTideModel" "hourOf" "[I" ∈ wsX6_colony := by decide +kernel
theorem fl_X6_colony_19 : Cond.fieldLink RX6 19 "GongTideModel" "loudOf" "[I" ∈ wsX6_colony := by decide +kernel
theorem fl_X6_colony_34 : Cond.fieldLink RX6 34 "GongTideModel" "page" "[B" ∈ wsX6_colony := by decide +kernel
theorem fl_X6_colony_66 : Cond.fieldLink RX6 66 "GongTideModel" "pageLength" "I" ∈ wsX6_colony := by decide +kernel
theorem fl_X6_colony_70 : Cond.fieldLink RX6 70 "GongTideModel" "newStrokes" "I" ∈ wsX6_colony := by decide +kernel
theorem fl_X6_colony_73 : Cond.fieldLink RX6 73 "GongTideModel" "isWhole" "Z" ∈ wsX6_colony := by decide +kernel
theorem fl_X6_colony_81 : Cond.fieldLink RX6 81 "GongTideModel" "newHouses" "I" ∈ wsX6_colony := by decide +kernel
theorem fl_X6_colony_94 : Cond.fieldLink RX6 94 "GongTideModel" "houses" "I" ∈ wsX6_colony := by decide +kernel
theorem fl_X6_colony_97 : Cond.fieldLink RX6 97 "GongTideModel" "strokes" "I" ∈ wsX6_colony := by decide +kernel
theorem fl_X6_colony_100 : Cond.fieldLink RX6 100 "GongTideModel" "colonies" "I" ∈ wsX6_colony := by decide +kernel
theorem fl_X6_colony_103 : Cond.fieldLink RX6 103 "GongTideModel" "changes" "I" ∈ wsX6_colony := by decide +kernel
theorem fl_X6_colony_106 : Cond.fieldLink RX6 106 "GongTideModel" "heard" "I" ∈ wsX6_colony := by decide +kernel
theorem hi_X6_colony_X6 : ∀ w ∈ wsX60, w ∈ wsX6_colony := fun w h => List.mem_cons_of_mem _ (List.mem_append_right _ h)
def rmX6_colony : Room := { frames := 3, cells := 0, slots := 0, locals := 65 }
set_option maxHeartbeats 4000000 in
set_option maxRecDepth 100000 in
theorem con_X6_colony (lau : Launch) (D : va_G) (cI cB : ClassId) (g : Nat) (co : Int) (nh : Nat) (qk : Nat) (qv : Nat) (ns : Nat) (qh : Nat) (ql : Nat) (ch : Int) (hd : Nat) (q9 : Nat) (q10 : Nat) (q11 : Nat) (q12 : Nat) (pl : Nat) (qp : Nat) (iw : Int) (nw : Int) (nz : Int) (sd : Int64) (qs : Nat) (ik : Int) (kc : Int) (ks : Nat) (kg : Int) (kh : Nat) (k26 : Nat) (k27 : Nat) (k28 : Nat) (k29 : Nat) (k30 : Nat) (k31 : Nat) (k32 : Nat) (hx : Int64) (K : Nat → Int) (V : Nat → Int) (SH : Nat → Int) (SL : Nat → Int) (P : Nat → Int) (hpl : pl ≤ 25) (hP : ∀ k, k < pl → 32 ≤ P k ∧ P k ≤ 126) (hwh : sp_whole P pl = true) : jMW (S := Unit) lau yX6_colony wsX6_colony rmX6_colony D cI cB [.ref g] [oM g co ((nh : Nat) : Int) qk qv ((ns : Nat) : Int) qh ql ch ((hd : Nat) : Int) q9 q10 q11 q12 ((pl : Nat) : Int) qp iw nw nz ((0 : Nat) : Int) sd qs ik kc ((ks : Nat) : Int) kg ((kh : Nat) : Int) k26 k27 k28 k29 k30 k31 k32 hx, aI cI qk 5 K, aI cI qv 5 V, aI cI qh 7 SH, aI cI ql 7 SL, aI cB qp 25 P] (fun u => some (.int (jI ((sp_hn P pl : Nat) : Int)))) (fun u => True) (fun u => [oM g (co + 1) ((sp_hn P pl : Nat) : Int) qk qv ((sp_sn P pl : Nat) : Int) qh ql 0 ((0 : Nat) : Int) q9 q10 q11 q12 ((0 : Nat) : Int) qp (jb (sp_whole P pl = true)) (((sp_hn P pl : Nat) : Int)) (((sp_sn P pl : Nat) : Int)) ((0 : Nat) : Int) sd qs ik kc ((ks : Nat) : Int) kg ((kh : Nat) : Int) k26 k27 k28 k29 k30 k31 k32 hx, aI cI qk 5 (sp_nk K P (sp_hn P pl)), aI cI qv 5 (sp_nv V P (sp_hn P pl)), aI cI qh 7 (sp_nsh SH P (sp_hn P pl) (sp_sn P pl)), aI cI ql 7 (sp_nsl SL P (sp_hn P pl) (sp_sn P pl)), aI cB qp 25 P]) := by
  refine jMW.of (own := RX6) (cc := cX6_colony) (maxL := 2) (ret := (some .int)) rfl (by decide) rfl (Nat.le_of_ble_eq_true rfl) ?_
  intro X C E
  refine jw_lv (lv' := [(0, .ref g)]) [0] rfl ?_
  obtain ⟨w1, w2, w3, w4, w5, w6, w7, w8⟩ := sp_whole_facts hpl hwh
  refine jw_aload_n (pc := 0) C dX6_colony_0 0 rfl ?_
  refine jw_callWV (pc := 1) C [] [] 0 (con_X6_read lau D cI cB g co nh qk qv ns qh ql ch hd q9 q10 q11 q12 pl qp 0 sd qs ik kc ks kg kh k26 k27 k28 k29 k30 k31 k32 hx iw nw nz P (by omega) hP) gX6_colony_X6_read rfl rfl rfl (by decide +kernel) ⟨Nat.le_of_ble_eq_true rfl, Nat.le_of_ble_eq_true rfl⟩ 0 rfl rfl [0, 5] [1, 2, 3, 4] [4, 0, 1, 2, 3, 5] (wr := [aI cI qk 5 K, aI cI qv 5 V, aI cI qh 7 SH, aI cI ql 7 SL]) rfl rfl (by decide) (by decide) (fun _ => rfl) (wN := fun u_1_1 => [oM g co ((nh : Nat) : Int) qk qv ((ns : Nat) : Int) qh ql ch ((hd : Nat) : Int) q9 q10 q11 q12 ((pl : Nat) : Int) qp (jb (sp_whole P pl = true)) u_1_1.1 u_1_1.2 ((0 : Nat) : Int) sd qs ik kc ((ks : Nat) : Int) kg ((kh : Nat) : Int) k26 k27 k28 k29 k30 k31 k32 hx, aI cI qk 5 K, aI cI qv 5 V, aI cI qh 7 SH, aI cI ql 7 SL, aI cB qp 25 P]) (fun _ => rfl) (stN := fun u_1_1 => [.int (jI ((sp_fault P pl : Nat) : Int))]) (fun _ => rfl) rfl (Nat.le_of_ble_eq_true rfl) rfl dX6_colony_1 (fun u_1_1 hu_1_1 => ?_)
  (try dsimp only at hu_1_1)
  have hpost := hu_1_1
  refine jw_pop (pc := 4) C dX6_colony_4 rfl ?_
  refine jw_aload_n (pc := 5) C dX6_colony_5 0 rfl ?_
  refine jw_get (pc := 6) C hi_X6_colony_X6 0 rfl rfl 15 (by decide) fl_X6_colony_73 rfl rfl dX6_colony_6 ?_
  refine jw_ifb_ne (pc := 9) (tgt := 15) C dX6_colony_9 (by decide) (fun c_9 => ?_) (fun c_9 => ?_)
  · -- 9 t
    rw [show u_1_1.1 = ((sp_hn P pl : Nat) : Int) from (hpost hwh).1, show u_1_1.2 = ((sp_sn P pl : Nat) : Int) from (hpost hwh).2]
    refine jw_aload_n (pc := 15) C dX6_colony_15 0 rfl ?_
    refine jw_aload_n (pc := 16) C dX6_colony_16 0 rfl ?_
    refine jw_get (pc := 17) C hi_X6_colony_X6 0 rfl rfl 16 (by decide) fl_X6_colony_81 rfl rfl dX6_colony_17 ?_
    refine jw_put (pc := 20) (ty := .int) (ws' := [oM g co ((sp_hn P pl : Nat) : Int) qk qv ((ns : Nat) : Int) qh ql ch ((hd : Nat) : Int) q9 q10 q11 q12 ((pl : Nat) : Int) qp (jb (sp_whole P pl = true)) ((sp_hn P pl : Nat) : Int) ((sp_sn P pl : Nat) : Int) ((0 : Nat) : Int) sd qs ik kc ((ks : Nat) : Int) kg ((kh : Nat) : Int) k26 k27 k28 k29 k30 k31 k32 hx, aI cI qk 5 K, aI cI qv 5 V, aI cI qh 7 SH, aI cI ql 7 SL, aI cB qp 25 P]) C hi_X6_colony_X6 tyX6 tyX6_ok nmX6 0 rfl rfl 1 (by decide) fl_X6_colony_94 rfl rfl (by decide +kernel) rfl rfl (Nat.le_of_ble_eq_true rfl) rfl dX6_colony_20 ?_
    refine jw_aload_n (pc := 23) C dX6_colony_23 0 rfl ?_
    refine jw_aload_n (pc := 24) C dX6_colony_24 0 rfl ?_
    refine jw_get (pc := 25) C hi_X6_colony_X6 0 rfl rfl 17 (by decide) fl_X6_colony_70 rfl rfl dX6_colony_25 ?_
    refine jw_put (pc := 28) (ty := .int) (ws' := [oM g co ((sp_hn P pl : Nat) : Int) qk qv ((sp_sn P pl : Nat) : Int) qh ql ch ((hd : Nat) : Int) q9 q10 q11 q12 ((pl : Nat) : Int) qp (jb (sp_whole P pl = true)) ((sp_hn P pl : Nat) : Int) ((sp_sn P pl : Nat) : Int) ((0 : Nat) : Int) sd qs ik kc ((ks : Nat) : Int) kg ((kh : Nat) : Int) k26 k27 k28 k29 k30 k31 k32 hx, aI cI qk 5 K, aI cI qv 5 V, aI cI qh 7 SH, aI cI ql 7 SL, aI cB qp 25 P]) C hi_X6_colony_X6 tyX6 tyX6_ok nmX6 0 rfl rfl 4 (by decide) fl_X6_colony_97 rfl rfl (by decide +kernel) rfl rfl (Nat.le_of_ble_eq_true rfl) rfl dX6_colony_28 ?_
    refine jw_arr (f := K) (g := sp_nk K P 0) (ws' := [oM g co ((sp_hn P pl : Nat) : Int) qk qv ((sp_sn P pl : Nat) : Int) qh ql ch ((hd : Nat) : Int) q9 q10 q11 q12 ((pl : Nat) : Int) qp (jb (sp_whole P pl = true)) ((sp_hn P pl : Nat) : Int) ((sp_sn P pl : Nat) : Int) ((0 : Nat) : Int) sd qs ik kc ((ks : Nat) : Int) kg ((kh : Nat) : Int) k26 k27 k28 k29 k30 k31 k32 hx, aI cI qk 5 (sp_nk K P 0), aI cI qv 5 V, aI cI qh 7 SH, aI cI ql 7 SL, aI cB qp 25 P]) 1 rfl (by exact fun j _ => sp_fill0 (S := K) (g := fun j => sp_kind (P (3 * j))) j) rfl ?_
    refine jw_arr (f := V) (g := sp_nv V P 0) (ws' := [oM g co ((sp_hn P pl : Nat) : Int) qk qv ((sp_sn P pl : Nat) : Int) qh ql ch ((hd : Nat) : Int) q9 q10 q11 q12 ((pl : Nat) : Int) qp (jb (sp_whole P pl = true)) ((sp_hn P pl : Nat) : Int) ((sp_sn P pl : Nat) : Int) ((0 : Nat) : Int) sd qs ik kc ((ks : Nat) : Int) kg ((kh : Nat) : Int) k26 k27 k28 k29 k30 k31 k32 hx, aI cI qk 5 (sp_nk K P 0), aI cI qv 5 (sp_nv V P 0), aI cI qh 7 SH, aI cI ql 7 SL, aI cB qp 25 P]) 2 rfl (by exact fun j _ => sp_fill0 (S := V) (g := fun j => P (3 * j + 1) - 48) j) rfl ?_
    refine jw_arr (f := SH) (g := sp_nsh SH P (sp_hn P pl) 0) (ws' := [oM g co ((sp_hn P pl : Nat) : Int) qk qv ((sp_sn P pl : Nat) : Int) qh ql ch ((hd : Nat) : Int) q9 q10 q11 q12 ((pl : Nat) : Int) qp (jb (sp_whole P pl = true)) ((sp_hn P pl : Nat) : Int) ((sp_sn P pl : Nat) : Int) ((0 : Nat) : Int) sd qs ik kc ((ks : Nat) : Int) kg ((kh : Nat) : Int) k26 k27 k28 k29 k30 k31 k32 hx, aI cI qk 5 (sp_nk K P 0), aI cI qv 5 (sp_nv V P 0), aI cI qh 7 (sp_nsh SH P (sp_hn P pl) 0), aI cI ql 7 SL, aI cB qp 25 P]) 3 rfl (by exact fun j _ => sp_fill0 (S := SH) (g := fun j => P (3 * (sp_hn P pl) + 2 * j) - 48) j) rfl ?_
    refine jw_arr (f := SL) (g := sp_nsl SL P (sp_hn P pl) 0) (ws' := [oM g co ((sp_hn P pl : Nat) : Int) qk qv ((sp_sn P pl : Nat) : Int) qh ql ch ((hd : Nat) : Int) q9 q10 q11 q12 ((pl : Nat) : Int) qp (jb (sp_whole P pl = true)) ((sp_hn P pl : Nat) : Int) ((sp_sn P pl : Nat) : Int) ((0 : Nat) : Int) sd qs ik kc ((ks : Nat) : Int) kg ((kh : Nat) : Int) k26 k27 k28 k29 k30 k31 k32 hx, aI cI qk 5 (sp_nk K P 0), aI cI qv 5 (sp_nv V P 0), aI cI qh 7 (sp_nsh SH P (sp_hn P pl) 0), aI cI ql 7 (sp_nsl SL P (sp_hn P pl) 0), aI cB qp 25 P]) 4 rfl (by exact fun j _ => sp_fill0 (S := SL) (g := fun j => P (3 * (sp_hn P pl) + 2 * j + 1) - 48) j) rfl ?_
    refine jw_iconst (pc := 31) C dX6_colony_31 ?_
    refine jw_istore_n (pc := 32) (lv' := [(1, .int (jI 0)), (0, .ref g)]) C dX6_colony_32 (by decide) rfl ?_
    have lp_33_2 : ∀ (fu : Nat) (x : Nat), (x ≤ sp_hn P pl) → sp_hn P pl - x < fu → jW X 33 [(0, .ref g), (1, .int (jI ((x : Nat) : Int)))] [] [oM g co ((sp_hn P pl : Nat) : Int) qk qv ((sp_sn P pl : Nat) : Int) qh ql ch ((hd : Nat) : Int) q9 q10 q11 q12 ((pl : Nat) : Int) qp (jb (sp_whole P pl = true)) ((sp_hn P pl : Nat) : Int) ((sp_sn P pl : Nat) : Int) ((0 : Nat) : Int) sd qs ik kc ((ks : Nat) : Int) kg ((kh : Nat) : Int) k26 k27 k28 k29 k30 k31 k32 hx, aI cI qk 5 (sp_nk K P x), aI cI qv 5 (sp_nv V P x), aI cI qh 7 (sp_nsh SH P (sp_hn P pl) 0), aI cI ql 7 (sp_nsl SL P (sp_hn P pl) 0), aI cB qp 25 P] := by
      intro fu
      induction fu with
      | zero => intro x hxn hm; exact absurd hm (Nat.not_lt_zero _)
      | succ fu ih_3 =>
        intro x hxn hm
        refine jw_iload_n (pc := 33) C dX6_colony_33 1 rfl ?_
        refine jw_aload_n (pc := 34) C dX6_colony_34 0 rfl ?_
        refine jw_get (pc := 35) C hi_X6_colony_X6 0 rfl rfl 1 (by decide) fl_X6_colony_94 rfl rfl dX6_colony_35 ?_
        refine jw_icmp_ge (pc := 38) (tgt := 83) C dX6_colony_38 (by decide) (by omega) (by omega) (fun c_38 => ?_) (fun c_38 => ?_)
        · -- 38 t
          rw [show x = sp_hn P pl by omega]
          refine jw_iconst (pc := 83) C dX6_colony_83 ?_
          refine jw_istore_n (pc := 84) (lv' := [(1, .int (jI 0)), (0, .ref g)]) C dX6_colony_84 (by decide) rfl ?_
          have lp_85_4 : ∀ (fu : Nat) (y : Nat), (y ≤ sp_sn P pl) → sp_sn P pl - y < fu → jW X 85 [(0, .ref g), (1, .int (jI ((y : Nat) : Int)))] [] [oM g co ((sp_hn P pl : Nat) : Int) qk qv ((sp_sn P pl : Nat) : Int) qh ql ch ((hd : Nat) : Int) q9 q10 q11 q12 ((pl : Nat) : Int) qp (jb (sp_whole P pl = true)) ((sp_hn P pl : Nat) : Int) ((sp_sn P pl : Nat) : Int) ((0 : Nat) : Int) sd qs ik kc ((ks : Nat) : Int) kg ((kh : Nat) : Int) k26 k27 k28 k29 k30 k31 k32 hx, aI cI qk 5 (sp_nk K P (sp_hn P pl)), aI cI qv 5 (sp_nv V P (sp_hn P pl)), aI cI qh 7 (sp_nsh SH P (sp_hn P pl) y), aI cI ql 7 (sp_nsl SL P (sp_hn P pl) y), aI cB qp 25 P] := by
            intro fu
            induction fu with
            | zero => intro y hy hm; exact absurd hm (Nat.not_lt_zero _)
            | succ fu ih_5 =>
              intro y hy hm
              refine jw_iload_n (pc := 85) C dX6_colony_85 1 rfl ?_
              refine jw_aload_n (pc := 86) C dX6_colony_86 0 rfl ?_
              refine jw_get (pc := 87) C hi_X6_colony_X6 0 rfl rfl 4 (by decide) fl_X6_colony_97 rfl rfl dX6_colony_87 ?_
              refine jw_icmp_ge (pc := 90) (tgt := 149) C dX6_colony_90 (by decide) (by omega) (by omega) (fun c_90 => ?_) (fun c_90 => ?_)
              · -- 90 t
                rw [show y = sp_sn P pl by omega]
                refine jw_aload_n (pc := 149) C dX6_colony_149 0 rfl ?_
                refine jw_dup (pc := 150) C dX6_colony_150 rfl ?_
                refine jw_get (pc := 151) C hi_X6_colony_X6 0 rfl rfl 0 (by decide) fl_X6_colony_100 rfl rfl dX6_colony_151 ?_
                refine jw_iconst (pc := 154) C dX6_colony_154 ?_
                refine jw_iadd (pc := 155) (z := (co + 1)) C dX6_colony_155 rfl ?_
                refine jw_put (pc := 156) (ty := .int) (ws' := [oM g (co + 1) ((sp_hn P pl : Nat) : Int) qk qv ((sp_sn P pl : Nat) : Int) qh ql ch ((hd : Nat) : Int) q9 q10 q11 q12 ((pl : Nat) : Int) qp (jb (sp_whole P pl = true)) ((sp_hn P pl : Nat) : Int) ((sp_sn P pl : Nat) : Int) ((0 : Nat) : Int) sd qs ik kc ((ks : Nat) : Int) kg ((kh : Nat) : Int) k26 k27 k28 k29 k30 k31 k32 hx, aI cI qk 5 (sp_nk K P (sp_hn P pl)), aI cI qv 5 (sp_nv V P (sp_hn P pl)), aI cI qh 7 (sp_nsh SH P (sp_hn P pl) (sp_sn P pl)), aI cI ql 7 (sp_nsl SL P (sp_hn P pl) (sp_sn P pl)), aI cB qp 25 P]) C hi_X6_colony_X6 tyX6 tyX6_ok nmX6 0 rfl rfl 0 (by decide) fl_X6_colony_100 rfl rfl (by decide +kernel) rfl rfl (Nat.le_of_ble_eq_true rfl) rfl dX6_colony_156 ?_
                refine jw_aload_n (pc := 159) C dX6_colony_159 0 rfl ?_
                refine jw_iconst (pc := 160) C dX6_colony_160 ?_
                refine jw_put (pc := 161) (ty := .int) (ws' := [oM g (co + 1) ((sp_hn P pl : Nat) : Int) qk qv ((sp_sn P pl : Nat) : Int) qh ql 0 ((hd : Nat) : Int) q9 q10 q11 q12 ((pl : Nat) : Int) qp (jb (sp_whole P pl = true)) ((sp_hn P pl : Nat) : Int) ((sp_sn P pl : Nat) : Int) ((0 : Nat) : Int) sd qs ik kc ((ks : Nat) : Int) kg ((kh : Nat) : Int) k26 k27 k28 k29 k30 k31 k32 hx, aI cI qk 5 (sp_nk K P (sp_hn P pl)), aI cI qv 5 (sp_nv V P (sp_hn P pl)), aI cI qh 7 (sp_nsh SH P (sp_hn P pl) (sp_sn P pl)), aI cI ql 7 (sp_nsl SL P (sp_hn P pl) (sp_sn P pl)), aI cB qp 25 P]) C hi_X6_colony_X6 tyX6 tyX6_ok nmX6 0 rfl rfl 7 (by decide) fl_X6_colony_103 rfl rfl (by decide +kernel) rfl rfl (Nat.le_of_ble_eq_true rfl) rfl dX6_colony_161 ?_
                refine jw_aload_n (pc := 164) C dX6_colony_164 0 rfl ?_
                refine jw_iconst (pc := 165) C dX6_colony_165 ?_
                refine jw_put (pc := 166) (ty := .int) (ws' := [oM g (co + 1) ((sp_hn P pl : Nat) : Int) qk qv ((sp_sn P pl : Nat) : Int) qh ql 0 0 q9 q10 q11 q12 ((pl : Nat) : Int) qp (jb (sp_whole P pl = true)) ((sp_hn P pl : Nat) : Int) ((sp_sn P pl : Nat) : Int) ((0 : Nat) : Int) sd qs ik kc ((ks : Nat) : Int) kg ((kh : Nat) : Int) k26 k27 k28 k29 k30 k31 k32 hx, aI cI qk 5 (sp_nk K P (sp_hn P pl)), aI cI qv 5 (sp_nv V P (sp_hn P pl)), aI cI qh 7 (sp_nsh SH P (sp_hn P pl) (sp_sn P pl)), aI cI ql 7 (sp_nsl SL P (sp_hn P pl) (sp_sn P pl)), aI cB qp 25 P]) C hi_X6_colony_X6 tyX6 tyX6_ok nmX6 0 rfl rfl 8 (by decide) fl_X6_colony_106 rfl rfl (by decide +kernel) rfl rfl (Nat.le_of_ble_eq_true rfl) rfl dX6_colony_166 ?_
                refine jw_aload_n (pc := 169) C dX6_colony_169 0 rfl ?_
                refine jw_iconst (pc := 170) C dX6_colony_170 ?_
                refine jw_put (pc := 171) (ty := .int) (ws' := [oM g (co + 1) ((sp_hn P pl : Nat) : Int) qk qv ((sp_sn P pl : Nat) : Int) qh ql 0 0 q9 q10 q11 q12 0 qp (jb (sp_whole P pl = true)) ((sp_hn P pl : Nat) : Int) ((sp_sn P pl : Nat) : Int) ((0 : Nat) : Int) sd qs ik kc ((ks : Nat) : Int) kg ((kh : Nat) : Int) k26 k27 k28 k29 k30 k31 k32 hx, aI cI qk 5 (sp_nk K P (sp_hn P pl)), aI cI qv 5 (sp_nv V P (sp_hn P pl)), aI cI qh 7 (sp_nsh SH P (sp_hn P pl) (sp_sn P pl)), aI cI ql 7 (sp_nsl SL P (sp_hn P pl) (sp_sn P pl)), aI cB qp 25 P]) C hi_X6_colony_X6 tyX6 tyX6_ok nmX6 0 rfl rfl 13 (by decide) fl_X6_colony_66 rfl rfl (by decide +kernel) rfl rfl (Nat.le_of_ble_eq_true rfl) rfl dX6_colony_171 ?_
                refine jw_aload_n (pc := 174) C dX6_colony_174 0 rfl ?_
                refine jw_get (pc := 175) C hi_X6_colony_X6 0 rfl rfl 1 (by decide) fl_X6_colony_94 rfl rfl dX6_colony_175 ?_
                exact jw_iretW (pc := 178) C E dX6_colony_178 (()) rfl trivial rfl
              · -- 90 f
                refine jw_aload_n (pc := 93) C dX6_colony_93 0 rfl ?_
                refine jw_get (pc := 94) C hi_X6_colony_X6 0 rfl rfl 5 (by decide) fl_X6_colony_16 rfl rfl dX6_colony_94 ?_
                refine jw_iload_n (pc := 97) C dX6_colony_97 1 rfl ?_
                refine jw_aload_n (pc := 98) C dX6_colony_98 0 rfl ?_
                refine jw_get (pc := 99) C hi_X6_colony_X6 0 rfl rfl 14 (by decide) fl_X6_colony_34 rfl rfl dX6_colony_99 ?_
                refine jw_iconst (pc := 102) C dX6_colony_102 ?_
                refine jw_aload_n (pc := 103) C dX6_colony_103 0 rfl ?_
                refine jw_get (pc := 104) C hi_X6_colony_X6 0 rfl rfl 1 (by decide) fl_X6_colony_94 rfl rfl dX6_colony_104 ?_
                refine jw_imul (pc := 107) (z := ((3 * (sp_hn P pl) : Nat) : Int)) C dX6_colony_107 (by omega) ?_
                refine jw_iconst (pc := 108) C dX6_colony_108 ?_
                refine jw_iload_n (pc := 109) C dX6_colony_109 1 rfl ?_
                refine jw_imul (pc := 110) (z := ((2 * y : Nat) : Int)) C dX6_colony_110 (by omega) ?_
                refine jw_iadd (pc := 111) (z := ((3 * (sp_hn P pl) + (2 * y) : Nat) : Int)) C dX6_colony_111 (by omega) ?_
                refine jw_bald (pc := 112) C (f := P) 5 (3 * (sp_hn P pl) + (2 * y)) rfl rfl (by omega) (by decide) dX6_colony_112 ?_
                have r_112 := hP (3 * (sp_hn P pl) + (2 * y)) (by omega)
                refine jw_bipush (pc := 113) C dX6_colony_113 (by decide +kernel) ?_
                refine jw_isub (pc := 115) (z := ((P (3 * (sp_hn P pl) + (2 * y))) - 48)) C dX6_colony_115 rfl ?_
                refine jw_iast (pc := 116) C (f := sp_nsh SH P (sp_hn P pl) y) 3 y rfl rfl (by omega) (by decide) (ws' := [oM g co ((sp_hn P pl : Nat) : Int) qk qv ((sp_sn P pl : Nat) : Int) qh ql ch ((hd : Nat) : Int) q9 q10 q11 q12 ((pl : Nat) : Int) qp (jb (sp_whole P pl = true)) ((sp_hn P pl : Nat) : Int) ((sp_sn P pl : Nat) : Int) ((0 : Nat) : Int) sd qs ik kc ((ks : Nat) : Int) kg ((kh : Nat) : Int) k26 k27 k28 k29 k30 k31 k32 hx, aI cI qk 5 (sp_nk K P (sp_hn P pl)), aI cI qv 5 (sp_nv V P (sp_hn P pl)), aI cI qh 7 (va_up (sp_nsh SH P (sp_hn P pl) y) y ((P (3 * (sp_hn P pl) + (2 * y))) - 48)), aI cI ql 7 (sp_nsl SL P (sp_hn P pl) y), aI cB qp 25 P]) rfl dX6_colony_116 ?_
                refine jw_aload_n (pc := 117) C dX6_colony_117 0 rfl ?_
                refine jw_get (pc := 118) C hi_X6_colony_X6 0 rfl rfl 6 (by decide) fl_X6_colony_19 rfl rfl dX6_colony_118 ?_
                refine jw_iload_n (pc := 121) C dX6_colony_121 1 rfl ?_
                refine jw_aload_n (pc := 122) C dX6_colony_122 0 rfl ?_
                refine jw_get (pc := 123) C hi_X6_colony_X6 0 rfl rfl 14 (by decide) fl_X6_colony_34 rfl rfl dX6_colony_123 ?_
                refine jw_iconst (pc := 126) C dX6_colony_126 ?_
                refine jw_aload_n (pc := 127) C dX6_colony_127 0 rfl ?_
                refine jw_get (pc := 128) C hi_X6_colony_X6 0 rfl rfl 1 (by decide) fl_X6_colony_94 rfl rfl dX6_colony_128 ?_
                refine jw_imul (pc := 131) (z := ((3 * (sp_hn P pl) : Nat) : Int)) C dX6_colony_131 (by omega) ?_
                refine jw_iconst (pc := 132) C dX6_colony_132 ?_
                refine jw_iload_n (pc := 133) C dX6_colony_133 1 rfl ?_
                refine jw_imul (pc := 134) (z := ((2 * y : Nat) : Int)) C dX6_colony_134 (by omega) ?_
                refine jw_iadd (pc := 135) (z := ((3 * (sp_hn P pl) + (2 * y) : Nat) : Int)) C dX6_colony_135 (by omega) ?_
                refine jw_iconst (pc := 136) C dX6_colony_136 ?_
                refine jw_iadd (pc := 137) (z := ((3 * (sp_hn P pl) + (2 * y) + 1 : Nat) : Int)) C dX6_colony_137 (by omega) ?_
                refine jw_bald (pc := 138) C (f := P) 5 (3 * (sp_hn P pl) + (2 * y) + 1) rfl rfl (by omega) (by decide) dX6_colony_138 ?_
                have r_138 := hP (3 * (sp_hn P pl) + (2 * y) + 1) (by omega)
                refine jw_bipush (pc := 139) C dX6_colony_139 (by decide +kernel) ?_
                refine jw_isub (pc := 141) (z := ((P (3 * (sp_hn P pl) + (2 * y) + 1)) - 48)) C dX6_colony_141 rfl ?_
                refine jw_iast (pc := 142) C (f := sp_nsl SL P (sp_hn P pl) y) 4 y rfl rfl (by omega) (by decide) (ws' := [oM g co ((sp_hn P pl : Nat) : Int) qk qv ((sp_sn P pl : Nat) : Int) qh ql ch ((hd : Nat) : Int) q9 q10 q11 q12 ((pl : Nat) : Int) qp (jb (sp_whole P pl = true)) ((sp_hn P pl : Nat) : Int) ((sp_sn P pl : Nat) : Int) ((0 : Nat) : Int) sd qs ik kc ((ks : Nat) : Int) kg ((kh : Nat) : Int) k26 k27 k28 k29 k30 k31 k32 hx, aI cI qk 5 (sp_nk K P (sp_hn P pl)), aI cI qv 5 (sp_nv V P (sp_hn P pl)), aI cI qh 7 (va_up (sp_nsh SH P (sp_hn P pl) y) y ((P (3 * (sp_hn P pl) + (2 * y))) - 48)), aI cI ql 7 (va_up (sp_nsl SL P (sp_hn P pl) y) y ((P (3 * (sp_hn P pl) + (2 * y) + 1)) - 48)), aI cB qp 25 P]) rfl dX6_colony_142 ?_
                refine jw_arr (f := va_up (sp_nsh SH P (sp_hn P pl) y) y ((P (3 * (sp_hn P pl) + (2 * y))) - 48)) (g := sp_nsh SH P (sp_hn P pl) (y + 1)) (ws' := [oM g co ((sp_hn P pl : Nat) : Int) qk qv ((sp_sn P pl : Nat) : Int) qh ql ch ((hd : Nat) : Int) q9 q10 q11 q12 ((pl : Nat) : Int) qp (jb (sp_whole P pl = true)) ((sp_hn P pl : Nat) : Int) ((sp_sn P pl : Nat) : Int) ((0 : Nat) : Int) sd qs ik kc ((ks : Nat) : Int) kg ((kh : Nat) : Int) k26 k27 k28 k29 k30 k31 k32 hx, aI cI qk 5 (sp_nk K P (sp_hn P pl)), aI cI qv 5 (sp_nv V P (sp_hn P pl)), aI cI qh 7 (sp_nsh SH P (sp_hn P pl) (y + 1)), aI cI ql 7 (va_up (sp_nsl SL P (sp_hn P pl) y) y ((P (3 * (sp_hn P pl) + (2 * y) + 1)) - 48)), aI cB qp 25 P]) 3 rfl (by exact fun j _ => sp_fill (S := SH) (g := fun j => P (3 * (sp_hn P pl) + 2 * j) - 48) rfl j) rfl ?_
                refine jw_arr (f := va_up (sp_nsl SL P (sp_hn P pl) y) y ((P (3 * (sp_hn P pl) + (2 * y) + 1)) - 48)) (g := sp_nsl SL P (sp_hn P pl) (y + 1)) (ws' := [oM g co ((sp_hn P pl : Nat) : Int) qk qv ((sp_sn P pl : Nat) : Int) qh ql ch ((hd : Nat) : Int) q9 q10 q11 q12 ((pl : Nat) : Int) qp (jb (sp_whole P pl = true)) ((sp_hn P pl : Nat) : Int) ((sp_sn P pl : Nat) : Int) ((0 : Nat) : Int) sd qs ik kc ((ks : Nat) : Int) kg ((kh : Nat) : Int) k26 k27 k28 k29 k30 k31 k32 hx, aI cI qk 5 (sp_nk K P (sp_hn P pl)), aI cI qv 5 (sp_nv V P (sp_hn P pl)), aI cI qh 7 (sp_nsh SH P (sp_hn P pl) (y + 1)), aI cI ql 7 (sp_nsl SL P (sp_hn P pl) (y + 1)), aI cB qp 25 P]) 4 rfl (by exact fun j _ => sp_fill (S := SL) (g := fun j => P (3 * (sp_hn P pl) + 2 * j + 1) - 48) rfl j) rfl ?_
                refine jw_iinc (pc := 143) (z := ((y + 1 : Nat) : Int)) (lv' := [(1, .int (jI ((y + 1 : Nat) : Int))), (0, .ref g)]) C dX6_colony_143 1 rfl (by omega) (by decide) rfl ?_
                refine jw_goto (pc := 146) (tgt := 85) C dX6_colony_146 (by decide) ?_
                refine jw_lv [1, 0] rfl ?_
                exact ih_5 (y + 1) (by omega) (by omega)
          refine jw_lv [1, 0] rfl ?_
          exact lp_85_4 ((sp_sn P pl - 0) + 1) 0 (by omega) (Nat.lt_succ_self _)
        · -- 38 f
          refine jw_aload_n (pc := 41) C dX6_colony_41 0 rfl ?_
          refine jw_get (pc := 42) C hi_X6_colony_X6 0 rfl rfl 2 (by decide) fl_X6_colony_7 rfl rfl dX6_colony_42 ?_
          refine jw_iload_n (pc := 45) C dX6_colony_45 1 rfl ?_
          refine jw_aload_n (pc := 46) C dX6_colony_46 0 rfl ?_
          refine jw_get (pc := 47) C hi_X6_colony_X6 0 rfl rfl 14 (by decide) fl_X6_colony_34 rfl rfl dX6_colony_47 ?_
          refine jw_iconst (pc := 50) C dX6_colony_50 ?_
          refine jw_iload_n (pc := 51) C dX6_colony_51 1 rfl ?_
          refine jw_imul (pc := 52) (z := ((3 * x : Nat) : Int)) C dX6_colony_52 (by omega) ?_
          refine jw_bald (pc := 53) C (f := P) 5 (3 * x) rfl rfl (by omega) (by decide) dX6_colony_53 ?_
          have r_53 := hP (3 * x) (by omega)
          refine jw_callRS (pc := 54) C [.int (jI (((P (3 * x)))))] [.int (jI ((x : Nat) : Int)), .ref qk] 1 (con_X6_kindBy lau D cI cB ((P (3 * x))) (by omega)) gX6_colony_X6_kindBy rfl rfl rfl (by decide +kernel) ⟨Nat.le_of_ble_eq_true rfl, Nat.le_of_ble_eq_true rfl⟩ [] rfl rfl (Nat.le_of_ble_eq_true rfl) rfl dX6_colony_54 ?_
          have b_54_0 := sp_kind_b ((P (3 * x)))
          refine jw_iast (pc := 57) C (f := sp_nk K P x) 1 x rfl rfl (by omega) (by decide) (ws' := [oM g co ((sp_hn P pl : Nat) : Int) qk qv ((sp_sn P pl : Nat) : Int) qh ql ch ((hd : Nat) : Int) q9 q10 q11 q12 ((pl : Nat) : Int) qp (jb (sp_whole P pl = true)) ((sp_hn P pl : Nat) : Int) ((sp_sn P pl : Nat) : Int) ((0 : Nat) : Int) sd qs ik kc ((ks : Nat) : Int) kg ((kh : Nat) : Int) k26 k27 k28 k29 k30 k31 k32 hx, aI cI qk 5 (va_up (sp_nk K P x) x (sp_kind ((P (3 * x))))), aI cI qv 5 (sp_nv V P x), aI cI qh 7 (sp_nsh SH P (sp_hn P pl) 0), aI cI ql 7 (sp_nsl SL P (sp_hn P pl) 0), aI cB qp 25 P]) rfl dX6_colony_57 ?_
          refine jw_aload_n (pc := 58) C dX6_colony_58 0 rfl ?_
          refine jw_get (pc := 59) C hi_X6_colony_X6 0 rfl rfl 3 (by decide) fl_X6_colony_13 rfl rfl dX6_colony_59 ?_
          refine jw_iload_n (pc := 62) C dX6_colony_62 1 rfl ?_
          refine jw_aload_n (pc := 63) C dX6_colony_63 0 rfl ?_
          refine jw_get (pc := 64) C hi_X6_colony_X6 0 rfl rfl 14 (by decide) fl_X6_colony_34 rfl rfl dX6_colony_64 ?_
          refine jw_iconst (pc := 67) C dX6_colony_67 ?_
          refine jw_iload_n (pc := 68) C dX6_colony_68 1 rfl ?_
          refine jw_imul (pc := 69) (z := ((3 * x : Nat) : Int)) C dX6_colony_69 (by omega) ?_
          refine jw_iconst (pc := 70) C dX6_colony_70 ?_
          refine jw_iadd (pc := 71) (z := ((3 * x + 1 : Nat) : Int)) C dX6_colony_71 (by omega) ?_
          refine jw_bald (pc := 72) C (f := P) 5 (3 * x + 1) rfl rfl (by omega) (by decide) dX6_colony_72 ?_
          have r_72 := hP (3 * x + 1) (by omega)
          refine jw_bipush (pc := 73) C dX6_colony_73 (by decide +kernel) ?_
          refine jw_isub (pc := 75) (z := ((P (3 * x + 1)) - 48)) C dX6_colony_75 rfl ?_
          refine jw_iast (pc := 76) C (f := sp_nv V P x) 2 x rfl rfl (by omega) (by decide) (ws' := [oM g co ((sp_hn P pl : Nat) : Int) qk qv ((sp_sn P pl : Nat) : Int) qh ql ch ((hd : Nat) : Int) q9 q10 q11 q12 ((pl : Nat) : Int) qp (jb (sp_whole P pl = true)) ((sp_hn P pl : Nat) : Int) ((sp_sn P pl : Nat) : Int) ((0 : Nat) : Int) sd qs ik kc ((ks : Nat) : Int) kg ((kh : Nat) : Int) k26 k27 k28 k29 k30 k31 k32 hx, aI cI qk 5 (va_up (sp_nk K P x) x (sp_kind ((P (3 * x))))), aI cI qv 5 (va_up (sp_nv V P x) x ((P (3 * x + 1)) - 48)), aI cI qh 7 (sp_nsh SH P (sp_hn P pl) 0), aI cI ql 7 (sp_nsl SL P (sp_hn P pl) 0), aI cB qp 25 P]) rfl dX6_colony_76 ?_
          refine jw_arr (f := va_up (sp_nk K P x) x (sp_kind ((P (3 * x))))) (g := sp_nk K P (x + 1)) (ws' := [oM g co ((sp_hn P pl : Nat) : Int) qk qv ((sp_sn P pl : Nat) : Int) qh ql ch ((hd : Nat) : Int) q9 q10 q11 q12 ((pl : Nat) : Int) qp (jb (sp_whole P pl = true)) ((sp_hn P pl : Nat) : Int) ((sp_sn P pl : Nat) : Int) ((0 : Nat) : Int) sd qs ik kc ((ks : Nat) : Int) kg ((kh : Nat) : Int) k26 k27 k28 k29 k30 k31 k32 hx, aI cI qk 5 (sp_nk K P (x + 1)), aI cI qv 5 (va_up (sp_nv V P x) x ((P (3 * x + 1)) - 48)), aI cI qh 7 (sp_nsh SH P (sp_hn P pl) 0), aI cI ql 7 (sp_nsl SL P (sp_hn P pl) 0), aI cB qp 25 P]) 1 rfl (by exact fun j _ => sp_fill (S := K) (g := fun j => sp_kind (P (3 * j))) rfl j) rfl ?_
          refine jw_arr (f := va_up (sp_nv V P x) x ((P (3 * x + 1)) - 48)) (g := sp_nv V P (x + 1)) (ws' := [oM g co ((sp_hn P pl : Nat) : Int) qk qv ((sp_sn P pl : Nat) : Int) qh ql ch ((hd : Nat) : Int) q9 q10 q11 q12 ((pl : Nat) : Int) qp (jb (sp_whole P pl = true)) ((sp_hn P pl : Nat) : Int) ((sp_sn P pl : Nat) : Int) ((0 : Nat) : Int) sd qs ik kc ((ks : Nat) : Int) kg ((kh : Nat) : Int) k26 k27 k28 k29 k30 k31 k32 hx, aI cI qk 5 (sp_nk K P (x + 1)), aI cI qv 5 (sp_nv V P (x + 1)), aI cI qh 7 (sp_nsh SH P (sp_hn P pl) 0), aI cI ql 7 (sp_nsl SL P (sp_hn P pl) 0), aI cB qp 25 P]) 2 rfl (by exact fun j _ => sp_fill (S := V) (g := fun j => P (3 * j + 1) - 48) rfl j) rfl ?_
          refine jw_iinc (pc := 77) (z := ((x + 1 : Nat) : Int)) (lv' := [(1, .int (jI ((x + 1 : Nat) : Int))), (0, .ref g)]) C dX6_colony_77 1 rfl (by omega) (by decide) rfl ?_
          refine jw_goto (pc := 80) (tgt := 33) C dX6_colony_80 (by decide) ?_
          refine jw_lv [1, 0] rfl ?_
          exact ih_3 (x + 1) (by omega) (by omega)
    refine jw_lv [1, 0] rfl ?_
    exact lp_33_2 ((sp_hn P pl - 0) + 1) 0 (by omega) (Nat.lt_succ_self _)
  · exact absurd hwh c_9
set_option maxHeartbeats 4000000 in
set_option maxRecDepth 100000 in
theorem con_X6_colonyF (lau : Launch) (D : va_G) (cI cB : ClassId) (g : Nat) (co : Int) (nh : Nat) (qk : Nat) (qv : Nat) (ns : Nat) (qh : Nat) (ql : Nat) (ch : Int) (hd : Nat) (q9 : Nat) (q10 : Nat) (q11 : Nat) (q12 : Nat) (pl : Nat) (qp : Nat) (th : Nat) (sd : Int64) (qs : Nat) (ik : Int) (kc : Int) (ks : Nat) (kg : Int) (kh : Nat) (k26 : Nat) (k27 : Nat) (k28 : Nat) (k29 : Nat) (k30 : Nat) (k31 : Nat) (k32 : Nat) (hx : Int64) (iw : Int) (nw : Int) (nz : Int) (P : Nat → Int) (hpl : pl ≤ 25) (hP : ∀ k, k < pl → 32 ≤ P k ∧ P k ≤ 126) (hwh : ¬ sp_whole P pl = true) : jMW (S := Int × Int) lau yX6_colony wsX6_colony rmX6_colony D cI cB [.ref g] [oM g co ((nh : Nat) : Int) qk qv ((ns : Nat) : Int) qh ql ch ((hd : Nat) : Int) q9 q10 q11 q12 ((pl : Nat) : Int) qp iw nw nz ((th : Nat) : Int) sd qs ik kc ((ks : Nat) : Int) kg ((kh : Nat) : Int) k26 k27 k28 k29 k30 k31 k32 hx, aI cB qp 25 P] (fun u => some (.int (jI (-103)))) (fun u => True) (fun u => [oM g co ((nh : Nat) : Int) qk qv ((ns : Nat) : Int) qh ql ch ((hd : Nat) : Int) q9 q10 q11 q12 ((pl : Nat) : Int) qp (jb (sp_whole P pl = true)) u.1 u.2 ((th : Nat) : Int) sd qs ik kc ((ks : Nat) : Int) kg ((kh : Nat) : Int) k26 k27 k28 k29 k30 k31 k32 hx, aI cB qp 25 P]) := by
  refine jMW.of (own := RX6) (cc := cX6_colony) (maxL := 2) (ret := (some .int)) rfl (by decide) rfl (Nat.le_of_ble_eq_true rfl) ?_
  intro X C E
  refine jw_lv (lv' := [(0, .ref g)]) [0] rfl ?_
  refine jw_aload_n (pc := 0) C dX6_colony_0 0 rfl ?_
  refine jw_callWV (pc := 1) C [] [] 0 (con_X6_read lau D cI cB g co nh qk qv ns qh ql ch hd q9 q10 q11 q12 pl qp th sd qs ik kc ks kg kh k26 k27 k28 k29 k30 k31 k32 hx iw nw nz P (by omega) hP) gX6_colony_X6_read rfl rfl rfl (by decide +kernel) ⟨Nat.le_of_ble_eq_true rfl, Nat.le_of_ble_eq_true rfl⟩ 0 rfl rfl [0, 1] [] [0, 1] (wr := []) rfl rfl (by decide) (by decide) (fun _ => rfl) (wN := fun u_1_1 => [oM g co ((nh : Nat) : Int) qk qv ((ns : Nat) : Int) qh ql ch ((hd : Nat) : Int) q9 q10 q11 q12 ((pl : Nat) : Int) qp (jb (sp_whole P pl = true)) u_1_1.1 u_1_1.2 ((th : Nat) : Int) sd qs ik kc ((ks : Nat) : Int) kg ((kh : Nat) : Int) k26 k27 k28 k29 k30 k31 k32 hx, aI cB qp 25 P]) (fun _ => rfl) (stN := fun u_1_1 => [.int (jI ((sp_fault P pl : Nat) : Int))]) (fun _ => rfl) rfl (Nat.le_of_ble_eq_true rfl) rfl dX6_colony_1 (fun u_1_1 hu_1_1 => ?_)
  (try dsimp only at hu_1_1)
  refine jw_pop (pc := 4) C dX6_colony_4 rfl ?_
  refine jw_aload_n (pc := 5) C dX6_colony_5 0 rfl ?_
  refine jw_get (pc := 6) C hi_X6_colony_X6 0 rfl rfl 15 (by decide) fl_X6_colony_73 rfl rfl dX6_colony_6 ?_
  refine jw_ifb_ne (pc := 9) (tgt := 15) C dX6_colony_9 (by decide) (fun c_9 => ?_) (fun c_9 => ?_)
  · exact absurd c_9 hwh
  · -- 9 f
    refine jw_bipush (pc := 12) C dX6_colony_12 (by decide +kernel) ?_
    exact jw_iretW (pc := 14) C E dX6_colony_14 ((u_1_1.1, u_1_1.2)) rfl trivial rfl
theorem fl_X6_digest_34 : Cond.fieldLink RX6 34 "GongTideModel" "page" "[B" ∈ wsX6_digest := by decide +kernel
theorem fl_X6_digest_66 : Cond.fieldLink RX6 66 "GongTideModel" "pageLength" "I" ∈ wsX6_digest := by decide +kernel
theorem fl_X6_digest_94 : Cond.fieldLink RX6 94 "GongTideModel" "houses" "I" ∈ wsX6_digest := by decide +kernel
theorem fl_X6_digest_97 : Cond.fieldLink RX6 97 "GongTideModel" "strokes" "I" ∈ wsX6_digest := by decide +kernel
theorem fl_X6_digest_225 : Cond.fieldLink RX6 225 "GongTideModel" "h" "J" ∈ wsX6_digest := by decide +kernel
theorem hi_X6_digest_X6 : ∀ w ∈ wsX60, w ∈ wsX6_digest := fun w h => List.mem_cons_of_mem _ (List.mem_append_right _ h)
theorem cn_X6_digest_228 : Cond.constantLong RX6 228 (1091) ∈ wsX6_digest := by decide +kernel
def rmX6_digest : Room := { frames := 7, cells := 0, slots := 0, locals := 165 }
set_option maxHeartbeats 8000000 in
set_option maxRecDepth 100000 in
theorem con_X6_digest (lau : Launch) (D : va_G) (cI cB : ClassId) (g : Nat) (co : Int) (nh : Nat) (qk : Nat) (qv : Nat) (ns : Nat) (qh : Nat) (ql : Nat) (ch : Int) (hd : Nat) (q9 : Nat) (q10 : Nat) (q11 : Nat) (q12 : Nat) (pl : Nat) (qp : Nat) (iw : Int) (nw : Int) (nz : Int) (sd : Int64) (qs : Nat) (ik : Int) (kc : Int) (ks : Nat) (kg : Int) (kh : Nat) (k26 : Nat) (k27 : Nat) (k28 : Nat) (k29 : Nat) (k30 : Nat) (k31 : Nat) (k32 : Nat) (hx : Int64) (K : Nat → Int) (V : Nat → Int) (SH : Nat → Int) (SL : Nat → Int) (P : Nat → Int) (HH : Nat → Int) (HO : Nat → Int) (HL : Nat → Int) (HW : Nat → Int) (hnh : nh ≤ 5) (hns : ns ≤ 6) (hhd : hd ≤ 6) (hpl : pl ≤ 25) (hS : ∀ x, x < ns → 0 ≤ SH x ∧ SH x ≤ 9 ∧ 0 ≤ SL x ∧ SL x ≤ 9) (hK : ∀ x, x < 5 → 0 ≤ K x ∧ K x ≤ 4) (hV : ∀ x, x < 5 → 0 ≤ V x ∧ V x ≤ 9) (hH : ∀ x, x < hd → 0 ≤ HH x ∧ HH x < 5 ∧ 0 ≤ HO x ∧ HO x ≤ 11 ∧ 1 ≤ HL x ∧ HL x ≤ 9 ∧ 0 ≤ HW x ∧ HW x ≤ 2) (hP : ∀ k, k < pl → 32 ≤ P k ∧ P k ≤ 126) (hz : nh = 0 → ns = 0) : jMW (S := (Nat → Int) × (Nat → Int)) lau yX6_digest wsX6_digest rmX6_digest D cI cB [.ref g] [oM g co ((nh : Nat) : Int) qk qv ((ns : Nat) : Int) qh ql ch ((hd : Nat) : Int) q9 q10 q11 q12 ((pl : Nat) : Int) qp iw nw nz ((0 : Nat) : Int) sd qs ik kc ((ks : Nat) : Int) kg ((kh : Nat) : Int) k26 k27 k28 k29 k30 k31 k32 hx, aI cI qk 5 K, aI cI qv 5 V, aI cI qh 7 SH, aI cI ql 7 SL, aI cI q9 6 HH, aI cI q10 6 HO, aI cI q11 6 HL, aI cI q12 6 HW, aI cB qp 25 P] (fun u => some (.long (sp_digest nh ns K V (sp_sum SH SL (ns + 0)) SH SL HH HO HL HW hd ch pl P co))) (fun u => (∀ j, j < ns → u.1 j = SH j) ∧ (∀ j, j < ns → u.2 j = SL j)) (fun u => [oM g co ((nh : Nat) : Int) qk qv ((ns : Nat) : Int) qh ql ch ((hd : Nat) : Int) q9 q10 q11 q12 ((pl : Nat) : Int) qp iw nw nz ((0 : Nat) : Int) sd qs ik kc ((ks : Nat) : Int) kg ((kh : Nat) : Int) k26 k27 k28 k29 k30 k31 k32 (sp_digest nh ns K V (sp_sum SH SL (ns + 0)) SH SL HH HO HL HW hd ch pl P co), aI cI qk 5 K, aI cI qv 5 V, aI cI qh 7 u.1, aI cI ql 7 u.2, aI cI q9 6 HH, aI cI q10 6 HO, aI cI q11 6 HL, aI cI q12 6 HW, aI cB qp 25 P]) := by
  refine jMW.of (own := RX6) (cc := cX6_digest) (maxL := 3) (ret := (some .long)) rfl (by decide) rfl (Nat.le_of_ble_eq_true rfl) ?_
  intro X C E
  refine jw_lv (lv' := [(0, .ref g)]) [0] rfl ?_
  have hp2 := sp_p2 hnh
  have hp1x := sp_p1 nh
  have hhb := sp_hrs_b K V (sp_sum SH SL (ns + 0)) HH HO HL HW hd
  refine jw_aload_n (pc := 0) C dX6_digest_0 0 rfl ?_
  refine jw_ldc2 (pc := 1) C dX6_digest_1 cn_X6_digest_228 ?_
  refine jw_put (pc := 4) (ty := .long) (ws' := [oM g co ((nh : Nat) : Int) qk qv ((ns : Nat) : Int) qh ql ch ((hd : Nat) : Int) q9 q10 q11 q12 ((pl : Nat) : Int) qp iw nw nz ((0 : Nat) : Int) sd qs ik kc ((ks : Nat) : Int) kg ((kh : Nat) : Int) k26 k27 k28 k29 k30 k31 k32 1091, aI cI qk 5 K, aI cI qv 5 V, aI cI qh 7 SH, aI cI ql 7 SL, aI cI q9 6 HH, aI cI q10 6 HO, aI cI q11 6 HL, aI cI q12 6 HW, aI cB qp 25 P]) C hi_X6_digest_X6 tyX6 tyX6_ok nmX6 0 rfl rfl 33 (by decide) fl_X6_digest_225 rfl rfl (by decide +kernel) rfl rfl (Nat.le_of_ble_eq_true rfl) rfl dX6_digest_4 ?_
  refine jw_iconst (pc := 7) C dX6_digest_7 ?_
  refine jw_istore_n (pc := 8) (lv' := [(1, .int (jI 0)), (0, .ref g)]) C dX6_digest_8 (by decide) rfl ?_
  have lp_9_1 : ∀ (fu : Nat) (e : Nat) (hv : Int64), (e ≤ nh) → (hv = sp_dgh (sp_hA K V (sp_sum SH SL (ns + 0))) e 1091) → nh - e < fu → jW X 9 [(0, .ref g), (1, .int (jI ((e : Nat) : Int)))] [] [oM g co ((nh : Nat) : Int) qk qv ((ns : Nat) : Int) qh ql ch ((hd : Nat) : Int) q9 q10 q11 q12 ((pl : Nat) : Int) qp iw nw nz ((0 : Nat) : Int) sd qs ik kc ((ks : Nat) : Int) kg ((kh : Nat) : Int) k26 k27 k28 k29 k30 k31 k32 hv, aI cI qk 5 K, aI cI qv 5 V, aI cI qh 7 SH, aI cI ql 7 SL, aI cI q9 6 HH, aI cI q10 6 HO, aI cI q11 6 HL, aI cI q12 6 HW, aI cB qp 25 P] := by
    intro fu
    induction fu with
    | zero => intro e hv he hhv hm; exact absurd hm (Nat.not_lt_zero _)
    | succ fu ih_2 =>
      intro e hv he hhv hm
      refine jw_iload_n (pc := 9) C dX6_digest_9 1 rfl ?_
      refine jw_aload_n (pc := 10) C dX6_digest_10 0 rfl ?_
      refine jw_get (pc := 11) C hi_X6_digest_X6 0 rfl rfl 1 (by decide) fl_X6_digest_94 rfl rfl dX6_digest_11 ?_
      refine jw_icmp_ge (pc := 14) (tgt := 59) C dX6_digest_14 (by decide) (by omega) (by omega) (fun c_14 => ?_) (fun c_14 => ?_)
      · -- 14 t
        refine jw_iconst (pc := 59) C dX6_digest_59 ?_
        refine jw_istore_n (pc := 60) (lv' := [(1, .int (jI 0)), (0, .ref g)]) C dX6_digest_60 (by decide) rfl ?_
        have lp_61_3 : ∀ (fu : Nat) (e2 : Nat) (hv2 : Int64), (e2 ≤ ns) → (hv2 = sp_dgs (sp_sA SH SL) e2 (sp_dgh (sp_hA K V (sp_sum SH SL (ns + 0))) nh 1091)) → ns - e2 < fu → jW X 61 [(0, .ref g), (1, .int (jI ((e2 : Nat) : Int)))] [] [oM g co ((nh : Nat) : Int) qk qv ((ns : Nat) : Int) qh ql ch ((hd : Nat) : Int) q9 q10 q11 q12 ((pl : Nat) : Int) qp iw nw nz ((0 : Nat) : Int) sd qs ik kc ((ks : Nat) : Int) kg ((kh : Nat) : Int) k26 k27 k28 k29 k30 k31 k32 hv2, aI cI qk 5 K, aI cI qv 5 V, aI cI qh 7 SH, aI cI ql 7 SL, aI cI q9 6 HH, aI cI q10 6 HO, aI cI q11 6 HL, aI cI q12 6 HW, aI cB qp 25 P] := by
          intro fu
          induction fu with
          | zero => intro e2 hv2 he2 hhv2 hm; exact absurd hm (Nat.not_lt_zero _)
          | succ fu ih_4 =>
            intro e2 hv2 he2 hhv2 hm
            refine jw_iload_n (pc := 61) C dX6_digest_61 1 rfl ?_
            refine jw_aload_n (pc := 62) C dX6_digest_62 0 rfl ?_
            refine jw_get (pc := 63) C hi_X6_digest_X6 0 rfl rfl 4 (by decide) fl_X6_digest_97 rfl rfl dX6_digest_63 ?_
            refine jw_icmp_ge (pc := 66) (tgt := 99) C dX6_digest_66 (by decide) (by omega) (by omega) (fun c_66 => ?_) (fun c_66 => ?_)
            · -- 66 t
              refine jw_aload_n (pc := 99) C dX6_digest_99 0 rfl ?_
              refine jw_get (pc := 100) C hi_X6_digest_X6 0 rfl rfl 1 (by decide) fl_X6_digest_94 rfl rfl dX6_digest_100 ?_
              refine jw_if_le (pc := 103) (tgt := 189) C dX6_digest_103 (by decide) (by omega) (fun c_103 => ?_) (fun c_103 => ?_)
              · -- 103 t
                refine jw_iconst (pc := 189) C dX6_digest_189 ?_
                refine jw_istore_n (pc := 190) (lv' := [(1, .int (jI 0)), (0, .ref g)]) C dX6_digest_190 (by decide) rfl ?_
                have lp_191_5 : ∀ (fu : Nat) (j : Nat) (hv4 : Int64) (c : Nat → Int) (d : Nat → Int), (j ≤ pl) → (hv4 = sp_mf P j (if 0 < nh then sp_dg2 nh K V (sp_sum SH SL (ns + 0)) HH HO HL HW hd (sp_dg1 nh ns K V (sp_sum SH SL (ns + 0)) SH SL) else sp_dg1 nh ns K V (sp_sum SH SL (ns + 0)) SH SL)) → (∀ y, y < ns → c y = SH y) → (∀ y, y < ns → d y = SL y) → pl - j < fu → jW X 191 [(0, .ref g), (1, .int (jI ((j : Nat) : Int)))] [] [oM g co ((nh : Nat) : Int) qk qv ((ns : Nat) : Int) qh ql ch ((hd : Nat) : Int) q9 q10 q11 q12 ((pl : Nat) : Int) qp iw nw nz ((0 : Nat) : Int) sd qs ik kc ((ks : Nat) : Int) kg ((kh : Nat) : Int) k26 k27 k28 k29 k30 k31 k32 hv4, aI cI qk 5 K, aI cI qv 5 V, aI cI qh 7 c, aI cI ql 7 d, aI cI q9 6 HH, aI cI q10 6 HO, aI cI q11 6 HL, aI cI q12 6 HW, aI cB qp 25 P] := by
                  intro fu
                  induction fu with
                  | zero => intro j hv4 c d hj hhv4 hc hdl hm; exact absurd hm (Nat.not_lt_zero _)
                  | succ fu ih_6 =>
                    intro j hv4 c d hj hhv4 hc hdl hm
                    refine jw_iload_n (pc := 191) C dX6_digest_191 1 rfl ?_
                    refine jw_aload_n (pc := 192) C dX6_digest_192 0 rfl ?_
                    refine jw_get (pc := 193) C hi_X6_digest_X6 0 rfl rfl 13 (by decide) fl_X6_digest_66 rfl rfl dX6_digest_193 ?_
                    refine jw_icmp_ge (pc := 196) (tgt := 216) C dX6_digest_196 (by decide) (by omega) (by omega) (fun c_196 => ?_) (fun c_196 => ?_)
                    · -- 196 t
                      refine jw_iconst (pc := 216) C dX6_digest_216 ?_
                      refine jw_istore_n (pc := 217) (lv' := [(1, .int (jI 0)), (0, .ref g)]) C dX6_digest_217 (by decide) rfl ?_
                      have lp_218_7 : ∀ (fu : Nat) (w5 : Nat) (hv5 : Int64), (w5 ≤ 9) → (hv5 = sp_mf (fun q => sp_count nh ns K V (sp_sum SH SL (ns + 0)) ch hd pl co ((q : Nat) : Int)) w5 (sp_mf P pl (if 0 < nh then sp_dg2 nh K V (sp_sum SH SL (ns + 0)) HH HO HL HW hd (sp_dg1 nh ns K V (sp_sum SH SL (ns + 0)) SH SL) else sp_dg1 nh ns K V (sp_sum SH SL (ns + 0)) SH SL))) → 9 - w5 < fu → jW X 218 [(0, .ref g), (1, .int (jI ((w5 : Nat) : Int)))] [] [oM g co ((nh : Nat) : Int) qk qv ((ns : Nat) : Int) qh ql ch ((hd : Nat) : Int) q9 q10 q11 q12 ((pl : Nat) : Int) qp iw nw nz ((0 : Nat) : Int) sd qs ik kc ((ks : Nat) : Int) kg ((kh : Nat) : Int) k26 k27 k28 k29 k30 k31 k32 hv5, aI cI qk 5 K, aI cI qv 5 V, aI cI qh 7 c, aI cI ql 7 d, aI cI q9 6 HH, aI cI q10 6 HO, aI cI q11 6 HL, aI cI q12 6 HW, aI cB qp 25 P] := by
                        intro fu
                        induction fu with
                        | zero => intro w5 hv5 hw9 hhv5 hm; exact absurd hm (Nat.not_lt_zero _)
                        | succ fu ih_8 =>
                          intro w5 hv5 hw9 hhv5 hm
                          refine jw_iload_n (pc := 218) C dX6_digest_218 1 rfl ?_
                          refine jw_bipush (pc := 219) C dX6_digest_219 (by decide +kernel) ?_
                          refine jw_icmp_ge (pc := 221) (tgt := 240) C dX6_digest_221 (by decide) (by omega) (by omega) (fun c_221 => ?_) (fun c_221 => ?_)
                          · -- 221 t
                            refine jw_aload_n (pc := 240) C dX6_digest_240 0 rfl ?_
                            refine jw_get (pc := 241) C hi_X6_digest_X6 0 rfl rfl 33 (by decide) fl_X6_digest_225 rfl rfl dX6_digest_241 ?_
                            exact jw_lretW (pc := 244) C E dX6_digest_244 (((c), (d))) (congrArg (fun z => some (Value.long z)) (by rw [hhv5, show w5 = 9 by omega]; rfl)) (by first | exact ⟨hc, hdl⟩ | exact hp4 | exact ⟨fun _ _ => rfl, fun _ _ => rfl⟩) (by rw [hhv5, show w5 = 9 by omega]; rfl)
                          · -- 221 f
                            have eR := sp_sum_congr (n := ns + 0) hc hdl
                            refine jw_aload_n (pc := 224) C dX6_digest_224 0 rfl ?_
                            refine jw_aload_n (pc := 225) C dX6_digest_225 0 rfl ?_
                            refine jw_iload_n (pc := 226) C dX6_digest_226 1 rfl ?_
                            refine jw_callRV (pc := 227) C [.int (jI ((((w5 : Nat) : Int))))] [.ref g] 1 (con_X6_howMany lau D cI cB g co nh qk qv ns qh ql ch hd q9 q10 q11 q12 pl qp iw nw nz sd qs ik kc ks kg kh k26 k27 k28 k29 k30 k31 k32 hv5 K V c d (((w5 : Nat) : Int)) (by omega) (by omega) (sp_bcd hS hc hdl) hK hV hz (by omega)) gX6_digest_X6_howMany rfl rfl rfl (by decide +kernel) ⟨Nat.le_of_ble_eq_true rfl, Nat.le_of_ble_eq_true rfl⟩ 0 rfl rfl [0, 1, 2, 3, 4] rfl rfl (Nat.le_of_ble_eq_true rfl) rfl dX6_digest_227 ?_
                            refine jw_top (y := jI (sp_count nh ns K V (sp_sum SH SL (ns + 0)) ch hd pl co ((w5 : Nat) : Int))) (congrArg jI (by rw [eR])) ?_
                            refine jw_i2l (pc := 230) C ((jI (sp_count nh ns K V (sp_sum SH SL (ns + 0)) ch hd pl co ((w5 : Nat) : Int))).toInt64) dX6_digest_230 rfl ?_
                            refine jw_callWV (pc := 231) C [.long (((jI (sp_count nh ns K V (sp_sum SH SL (ns + 0)) ch hd pl co ((w5 : Nat) : Int))).toInt64))] [] 1 (con_X6_mix lau D cI cB g co nh qk qv ns qh ql ch hd q9 q10 q11 q12 pl qp iw nw nz 0 sd qs ik kc ks kg kh k26 k27 k28 k29 k30 k31 k32 hv5 ((jI (sp_count nh ns K V (sp_sum SH SL (ns + 0)) ch hd pl co ((w5 : Nat) : Int))).toInt64) ) gX6_digest_X6_mix rfl rfl rfl (by decide +kernel) ⟨Nat.le_of_ble_eq_true rfl, Nat.le_of_ble_eq_true rfl⟩ 0 rfl rfl [0] [1, 2, 3, 4, 5, 6, 7, 8, 9] [9, 0, 1, 2, 3, 4, 5, 6, 7, 8] (wr := [aI cI qk 5 K, aI cI qv 5 V, aI cI qh 7 c, aI cI ql 7 d, aI cI q9 6 HH, aI cI q10 6 HO, aI cI q11 6 HL, aI cI q12 6 HW, aI cB qp 25 P]) rfl rfl (by decide) (by decide) (fun _ => rfl) (wN := fun u_231_9 => [oM g co ((nh : Nat) : Int) qk qv ((ns : Nat) : Int) qh ql ch ((hd : Nat) : Int) q9 q10 q11 q12 ((pl : Nat) : Int) qp iw nw nz ((0 : Nat) : Int) sd qs ik kc ((ks : Nat) : Int) kg ((kh : Nat) : Int) k26 k27 k28 k29 k30 k31 k32 (31 * hv5 + ((jI (sp_count nh ns K V (sp_sum SH SL (ns + 0)) ch hd pl co ((w5 : Nat) : Int))).toInt64)), aI cI qk 5 K, aI cI qv 5 V, aI cI qh 7 c, aI cI ql 7 d, aI cI q9 6 HH, aI cI q10 6 HO, aI cI q11 6 HL, aI cI q12 6 HW, aI cB qp 25 P]) (fun _ => rfl) (stN := fun u_231_9 => []) (fun _ => rfl) rfl (Nat.le_of_ble_eq_true rfl) rfl dX6_digest_231 (fun u_231_9 hu_231_9 => ?_)
                            refine jw_iinc (pc := 234) (z := ((w5 + 1 : Nat) : Int)) (lv' := [(1, .int (jI ((w5 + 1 : Nat) : Int))), (0, .ref g)]) C dX6_digest_234 1 rfl (by omega) (by decide) rfl ?_
                            refine jw_goto (pc := 237) (tgt := 218) C dX6_digest_237 (by decide) ?_
                            refine jw_lv [1, 0] rfl ?_
                            exact ih_8 (w5 + 1) (31 * hv5 + ((jI (sp_count nh ns K V (sp_sum SH SL (ns + 0)) ch hd pl co ((w5 : Nat) : Int))).toInt64)) (by omega) (by rw [hhv5]; rfl) (by omega)
                      refine jw_lv [1, 0] rfl ?_
                      exact lp_218_7 ((9 - 0) + 1) 0 hv4 (by omega) (by rw [hhv4, show j = pl by omega]; rfl) (Nat.lt_succ_self _)
                    · -- 196 f
                      refine jw_aload_n (pc := 199) C dX6_digest_199 0 rfl ?_
                      refine jw_aload_n (pc := 200) C dX6_digest_200 0 rfl ?_
                      refine jw_get (pc := 201) C hi_X6_digest_X6 0 rfl rfl 14 (by decide) fl_X6_digest_34 rfl rfl dX6_digest_201 ?_
                      refine jw_iload_n (pc := 204) C dX6_digest_204 1 rfl ?_
                      refine jw_bald (pc := 205) C (f := P) 9 j rfl rfl (by omega) (by decide) dX6_digest_205 ?_
                      have r_205 := hP j (by omega)
                      refine jw_i2l (pc := 206) C ((jI (P j)).toInt64) dX6_digest_206 rfl ?_
                      refine jw_callWV (pc := 207) C [.long (((jI (P j)).toInt64))] [] 1 (con_X6_mix lau D cI cB g co nh qk qv ns qh ql ch hd q9 q10 q11 q12 pl qp iw nw nz 0 sd qs ik kc ks kg kh k26 k27 k28 k29 k30 k31 k32 hv4 ((jI (P j)).toInt64) ) gX6_digest_X6_mix rfl rfl rfl (by decide +kernel) ⟨Nat.le_of_ble_eq_true rfl, Nat.le_of_ble_eq_true rfl⟩ 0 rfl rfl [0] [1, 2, 3, 4, 5, 6, 7, 8, 9] [9, 0, 1, 2, 3, 4, 5, 6, 7, 8] (wr := [aI cI qk 5 K, aI cI qv 5 V, aI cI qh 7 c, aI cI ql 7 d, aI cI q9 6 HH, aI cI q10 6 HO, aI cI q11 6 HL, aI cI q12 6 HW, aI cB qp 25 P]) rfl rfl (by decide) (by decide) (fun _ => rfl) (wN := fun u_207_10 => [oM g co ((nh : Nat) : Int) qk qv ((ns : Nat) : Int) qh ql ch ((hd : Nat) : Int) q9 q10 q11 q12 ((pl : Nat) : Int) qp iw nw nz ((0 : Nat) : Int) sd qs ik kc ((ks : Nat) : Int) kg ((kh : Nat) : Int) k26 k27 k28 k29 k30 k31 k32 (31 * hv4 + ((jI (P j)).toInt64)), aI cI qk 5 K, aI cI qv 5 V, aI cI qh 7 c, aI cI ql 7 d, aI cI q9 6 HH, aI cI q10 6 HO, aI cI q11 6 HL, aI cI q12 6 HW, aI cB qp 25 P]) (fun _ => rfl) (stN := fun u_207_10 => []) (fun _ => rfl) rfl (Nat.le_of_ble_eq_true rfl) rfl dX6_digest_207 (fun u_207_10 hu_207_10 => ?_)
                      refine jw_iinc (pc := 210) (z := ((j + 1 : Nat) : Int)) (lv' := [(1, .int (jI ((j + 1 : Nat) : Int))), (0, .ref g)]) C dX6_digest_210 1 rfl (by omega) (by decide) rfl ?_
                      refine jw_goto (pc := 213) (tgt := 191) C dX6_digest_213 (by decide) ?_
                      refine jw_lv [1, 0] rfl ?_
                      exact ih_6 (j + 1) (31 * hv4 + ((jI (P j)).toInt64)) c d (by omega) (by rw [hhv4]; rfl) hc hdl (by omega)
                refine jw_lv [1, 0] rfl ?_
                exact lp_191_5 ((pl - 0) + 1) 0 hv2 SH SL (by omega) (by first | (rw [if_pos (by omega), hhv3, show i = 12 by omega]; rfl) | (rw [if_neg (by omega), hhv2, show e2 = ns by omega]; rfl)) (by first | exact (fun _ _ => rfl) | exact hp4.1) (by first | exact (fun _ _ => rfl) | exact hp4.2) (Nat.lt_succ_self _)
              · -- 103 f
                refine jw_iconst (pc := 106) C dX6_digest_106 ?_
                refine jw_istore_n (pc := 107) (lv' := [(1, .int (jI 0)), (0, .ref g)]) C dX6_digest_107 (by decide) rfl ?_
                have lp_108_11 : ∀ (fu : Nat) (i : Nat) (hv3 : Int64), (i ≤ 12) → (hv3 = sp_mf (fun q => sp_cap ((sp_sum SH SL (ns + 0)) q)) i (sp_dg1 nh ns K V (sp_sum SH SL (ns + 0)) SH SL)) → 12 - i < fu → jW X 108 [(0, .ref g), (1, .int (jI ((i : Nat) : Int)))] [] [oM g co ((nh : Nat) : Int) qk qv ((ns : Nat) : Int) qh ql ch ((hd : Nat) : Int) q9 q10 q11 q12 ((pl : Nat) : Int) qp iw nw nz ((0 : Nat) : Int) sd qs ik kc ((ks : Nat) : Int) kg ((kh : Nat) : Int) k26 k27 k28 k29 k30 k31 k32 hv3, aI cI qk 5 K, aI cI qv 5 V, aI cI qh 7 SH, aI cI ql 7 SL, aI cI q9 6 HH, aI cI q10 6 HO, aI cI q11 6 HL, aI cI q12 6 HW, aI cB qp 25 P] := by
                  intro fu
                  induction fu with
                  | zero => intro i hv3 hi hhv3 hm; exact absurd hm (Nat.not_lt_zero _)
                  | succ fu ih_12 =>
                    intro i hv3 hi hhv3 hm
                    refine jw_iload_n (pc := 108) C dX6_digest_108 1 rfl ?_
                    refine jw_bipush (pc := 109) C dX6_digest_109 (by decide +kernel) ?_
                    refine jw_icmp_ge (pc := 111) (tgt := 130) C dX6_digest_111 (by decide) (by omega) (by omega) (fun c_111 => ?_) (fun c_111 => ?_)
                    · -- 111 t
                      refine jw_aload_n (pc := 130) C dX6_digest_130 0 rfl ?_
                      refine jw_aload_n (pc := 131) C dX6_digest_131 0 rfl ?_
                      refine jw_iconst (pc := 132) C dX6_digest_132 ?_
                      refine jw_aload_n (pc := 133) C dX6_digest_133 0 rfl ?_
                      refine jw_get (pc := 134) C hi_X6_digest_X6 0 rfl rfl 1 (by decide) fl_X6_digest_94 rfl rfl dX6_digest_134 ?_
                      refine jw_ishl (pc := 137) C (jI ((2 ^ nh : Nat) : Int)) dX6_digest_137 (jI_shl1 nh (by omega)) ?_
                      refine jw_iconst (pc := 138) C dX6_digest_138 ?_
                      refine jw_isub (pc := 139) (z := ((2 ^ nh - 1 : Nat) : Int)) C dX6_digest_139 (by omega) ?_
                      refine jw_iconst (pc := 140) C dX6_digest_140 ?_
                      refine jw_callRV (pc := 141) C [.int (jI (((2 ^ nh - 1) : Nat) : Int)), .int (jI ((2 : Nat) : Int))] [.ref g] 2 (con_X6_dinnerNow lau D cI cB g co nh qk qv ns qh ql ch hd q9 q10 q11 q12 pl qp iw nw nz sd qs ik kc ks kg kh k26 k27 k28 k29 k30 k31 k32 hv3 K V SH SL (2 ^ nh - 1) 2 (by omega) (by omega) hS hK hV (by omega) (by omega)) gX6_digest_X6_dinnerNow rfl rfl rfl (by decide +kernel) ⟨Nat.le_of_ble_eq_true rfl, Nat.le_of_ble_eq_true rfl⟩ 0 rfl rfl [0, 1, 2, 3, 4] rfl rfl (Nat.le_of_ble_eq_true rfl) rfl dX6_digest_141 ?_
                      refine jw_i2l (pc := 144) C ((jI (sp_dn K V (sp_sum SH SL (ns + 0)) nh (2 ^ nh - 1) 2)).toInt64) dX6_digest_144 rfl ?_
                      refine jw_callWV (pc := 145) C [.long (((jI (sp_dn K V (sp_sum SH SL (ns + 0)) nh (2 ^ nh - 1) 2)).toInt64))] [] 1 (con_X6_mix lau D cI cB g co nh qk qv ns qh ql ch hd q9 q10 q11 q12 pl qp iw nw nz 0 sd qs ik kc ks kg kh k26 k27 k28 k29 k30 k31 k32 hv3 ((jI (sp_dn K V (sp_sum SH SL (ns + 0)) nh (2 ^ nh - 1) 2)).toInt64) ) gX6_digest_X6_mix rfl rfl rfl (by decide +kernel) ⟨Nat.le_of_ble_eq_true rfl, Nat.le_of_ble_eq_true rfl⟩ 0 rfl rfl [0] [1, 2, 3, 4, 5, 6, 7, 8, 9] [9, 0, 1, 2, 3, 4, 5, 6, 7, 8] (wr := [aI cI qk 5 K, aI cI qv 5 V, aI cI qh 7 SH, aI cI ql 7 SL, aI cI q9 6 HH, aI cI q10 6 HO, aI cI q11 6 HL, aI cI q12 6 HW, aI cB qp 25 P]) rfl rfl (by decide) (by decide) (fun _ => rfl) (wN := fun u_145_13 => [oM g co ((nh : Nat) : Int) qk qv ((ns : Nat) : Int) qh ql ch ((hd : Nat) : Int) q9 q10 q11 q12 ((pl : Nat) : Int) qp iw nw nz ((0 : Nat) : Int) sd qs ik kc ((ks : Nat) : Int) kg ((kh : Nat) : Int) k26 k27 k28 k29 k30 k31 k32 (31 * hv3 + ((jI (sp_dn K V (sp_sum SH SL (ns + 0)) nh (2 ^ nh - 1) 2)).toInt64)), aI cI qk 5 K, aI cI qv 5 V, aI cI qh 7 SH, aI cI ql 7 SL, aI cI q9 6 HH, aI cI q10 6 HO, aI cI q11 6 HL, aI cI q12 6 HW, aI cB qp 25 P]) (fun _ => rfl) (stN := fun u_145_13 => []) (fun _ => rfl) rfl (Nat.le_of_ble_eq_true rfl) rfl dX6_digest_145 (fun u_145_13 hu_145_13 => ?_)
                      refine jw_aload_n (pc := 148) C dX6_digest_148 0 rfl ?_
                      refine jw_aload_n (pc := 149) C dX6_digest_149 0 rfl ?_
                      refine jw_iconst (pc := 150) C dX6_digest_150 ?_
                      refine jw_iconst (pc := 151) C dX6_digest_151 ?_
                      refine jw_callWV (pc := 152) C [.int (jI 5), .int (jI 0)] [.ref g] 2 (con_X6_bestNow lau D cI cB g co nh qk qv ns qh ql ch hd q9 q10 q11 q12 pl qp iw nw nz sd qs ik kc ks kg kh k26 k27 k28 k29 k30 k31 k32 (31 * hv3 + ((jI (sp_dn K V (sp_sum SH SL (ns + 0)) nh (2 ^ nh - 1) 2)).toInt64)) K V SH SL 5 0 (by omega) (by omega) hS hK hV (by omega) (by omega)) gX6_digest_X6_bestNow rfl rfl rfl (by decide +kernel) ⟨Nat.le_of_ble_eq_true rfl, Nat.le_of_ble_eq_true rfl⟩ 0 rfl rfl [0, 1, 2, 3, 4] [5, 6, 7, 8, 9] [5, 6, 7, 8, 9, 0, 1, 2, 3, 4] (wr := [aI cI q9 6 HH, aI cI q10 6 HO, aI cI q11 6 HL, aI cI q12 6 HW, aI cB qp 25 P]) rfl rfl (by decide) (by decide) (fun _ => rfl) (wN := fun u_152_14 => [oM g co ((nh : Nat) : Int) qk qv ((ns : Nat) : Int) qh ql ch ((hd : Nat) : Int) q9 q10 q11 q12 ((pl : Nat) : Int) qp iw nw nz ((0 : Nat) : Int) sd qs ik kc ((ks : Nat) : Int) kg ((kh : Nat) : Int) k26 k27 k28 k29 k30 k31 k32 ((31 * hv3 + ((jI (sp_dn K V (sp_sum SH SL (ns + 0)) nh (2 ^ nh - 1) 2)).toInt64))), aI cI qk 5 K, aI cI qv 5 V, aI cI qh 7 u_152_14.1, aI cI ql 7 u_152_14.2, aI cI q9 6 HH, aI cI q10 6 HO, aI cI q11 6 HL, aI cI q12 6 HW, aI cB qp 25 P]) (fun _ => rfl) (stN := fun u_152_14 => [.int (jI (if 0 = 0 then sp_bh K V (sp_sum SH SL (ns + 0)) nh 5 10 else sp_bm K V (sp_sum SH SL (ns + 0)) nh 5 10)), .ref g]) (fun _ => rfl) rfl (Nat.le_of_ble_eq_true rfl) rfl dX6_digest_152 (fun u_152_14 hu_152_14 => ?_)
                      (try dsimp only at hu_152_14)
                      have hp1 := hu_152_14
                      refine jw_top (y := jI (sp_bh K V (sp_sum SH SL (ns + 0)) nh 5 10)) (congrArg jI (if_pos rfl)) ?_
                      refine jw_i2l (pc := 155) C ((jI (sp_bh K V (sp_sum SH SL (ns + 0)) nh 5 10)).toInt64) dX6_digest_155 rfl ?_
                      refine jw_callWV (pc := 156) C [.long (((jI (sp_bh K V (sp_sum SH SL (ns + 0)) nh 5 10)).toInt64))] [] 1 (con_X6_mix lau D cI cB g co nh qk qv ns qh ql ch hd q9 q10 q11 q12 pl qp iw nw nz 0 sd qs ik kc ks kg kh k26 k27 k28 k29 k30 k31 k32 ((31 * hv3 + ((jI (sp_dn K V (sp_sum SH SL (ns + 0)) nh (2 ^ nh - 1) 2)).toInt64))) ((jI (sp_bh K V (sp_sum SH SL (ns + 0)) nh 5 10)).toInt64) ) gX6_digest_X6_mix rfl rfl rfl (by decide +kernel) ⟨Nat.le_of_ble_eq_true rfl, Nat.le_of_ble_eq_true rfl⟩ 0 rfl rfl [0] [1, 2, 3, 4, 5, 6, 7, 8, 9] [9, 0, 1, 2, 3, 4, 5, 6, 7, 8] (wr := [aI cI qk 5 K, aI cI qv 5 V, aI cI qh 7 u_152_14.1, aI cI ql 7 u_152_14.2, aI cI q9 6 HH, aI cI q10 6 HO, aI cI q11 6 HL, aI cI q12 6 HW, aI cB qp 25 P]) rfl rfl (by decide) (by decide) (fun _ => rfl) (wN := fun u_156_15 => [oM g co ((nh : Nat) : Int) qk qv ((ns : Nat) : Int) qh ql ch ((hd : Nat) : Int) q9 q10 q11 q12 ((pl : Nat) : Int) qp iw nw nz ((0 : Nat) : Int) sd qs ik kc ((ks : Nat) : Int) kg ((kh : Nat) : Int) k26 k27 k28 k29 k30 k31 k32 (31 * ((31 * hv3 + ((jI (sp_dn K V (sp_sum SH SL (ns + 0)) nh (2 ^ nh - 1) 2)).toInt64))) + ((jI (sp_bh K V (sp_sum SH SL (ns + 0)) nh 5 10)).toInt64)), aI cI qk 5 K, aI cI qv 5 V, aI cI qh 7 u_152_14.1, aI cI ql 7 u_152_14.2, aI cI q9 6 HH, aI cI q10 6 HO, aI cI q11 6 HL, aI cI q12 6 HW, aI cB qp 25 P]) (fun _ => rfl) (stN := fun u_156_15 => []) (fun _ => rfl) rfl (Nat.le_of_ble_eq_true rfl) rfl dX6_digest_156 (fun u_156_15 hu_156_15 => ?_)
                      refine jw_aload_n (pc := 159) C dX6_digest_159 0 rfl ?_
                      refine jw_aload_n (pc := 160) C dX6_digest_160 0 rfl ?_
                      refine jw_iconst (pc := 161) C dX6_digest_161 ?_
                      refine jw_iconst (pc := 162) C dX6_digest_162 ?_
                      refine jw_callWV (pc := 163) C [.int (jI 5), .int (jI 1)] [.ref g] 2 (con_X6_bestNow lau D cI cB g co nh qk qv ns qh ql ch hd q9 q10 q11 q12 pl qp iw nw nz sd qs ik kc ks kg kh k26 k27 k28 k29 k30 k31 k32 (31 * ((31 * hv3 + ((jI (sp_dn K V (sp_sum SH SL (ns + 0)) nh (2 ^ nh - 1) 2)).toInt64))) + ((jI (sp_bh K V (sp_sum SH SL (ns + 0)) nh 5 10)).toInt64)) K V u_152_14.1 u_152_14.2 5 1 (by omega) (by omega) (sp_bcd hS hp1.1 hp1.2) hK hV (by omega) (by omega)) gX6_digest_X6_bestNow rfl rfl rfl (by decide +kernel) ⟨Nat.le_of_ble_eq_true rfl, Nat.le_of_ble_eq_true rfl⟩ 0 rfl rfl [0, 1, 2, 3, 4] [5, 6, 7, 8, 9] [5, 6, 7, 8, 9, 0, 1, 2, 3, 4] (wr := [aI cI q9 6 HH, aI cI q10 6 HO, aI cI q11 6 HL, aI cI q12 6 HW, aI cB qp 25 P]) rfl rfl (by decide) (by decide) (fun _ => rfl) (wN := fun u_163_16 => [oM g co ((nh : Nat) : Int) qk qv ((ns : Nat) : Int) qh ql ch ((hd : Nat) : Int) q9 q10 q11 q12 ((pl : Nat) : Int) qp iw nw nz ((0 : Nat) : Int) sd qs ik kc ((ks : Nat) : Int) kg ((kh : Nat) : Int) k26 k27 k28 k29 k30 k31 k32 ((31 * ((31 * hv3 + ((jI (sp_dn K V (sp_sum SH SL (ns + 0)) nh (2 ^ nh - 1) 2)).toInt64))) + ((jI (sp_bh K V (sp_sum SH SL (ns + 0)) nh 5 10)).toInt64))), aI cI qk 5 K, aI cI qv 5 V, aI cI qh 7 u_163_16.1, aI cI ql 7 u_163_16.2, aI cI q9 6 HH, aI cI q10 6 HO, aI cI q11 6 HL, aI cI q12 6 HW, aI cB qp 25 P]) (fun _ => rfl) (stN := fun u_163_16 => [.int (jI (if 1 = 0 then sp_bh K V (sp_sum u_152_14.1 u_152_14.2 (ns + 0)) nh 5 10 else sp_bm K V (sp_sum u_152_14.1 u_152_14.2 (ns + 0)) nh 5 10)), .ref g]) (fun _ => rfl) rfl (Nat.le_of_ble_eq_true rfl) rfl dX6_digest_163 (fun u_163_16 hu_163_16 => ?_)
                      (try dsimp only at hu_163_16)
                      have hp2b : (∀ j, j < ns → u_163_16.1 j = SH j) ∧ (∀ j, j < ns → u_163_16.2 j = SL j) := ⟨fun j hj => (hu_163_16.1 j hj).trans (hp1.1 j hj), fun j hj => (hu_163_16.2 j hj).trans (hp1.2 j hj)⟩
                      have eR1 := sp_sum_congr (n := ns + 0) hp1.1 hp1.2
                      refine jw_top (y := jI (sp_bm K V (sp_sum SH SL (ns + 0)) nh 5 10)) (congrArg jI (by rw [eR1]; exact if_neg (by decide))) ?_
                      refine jw_i2l (pc := 166) C ((jI (sp_bm K V (sp_sum SH SL (ns + 0)) nh 5 10)).toInt64) dX6_digest_166 rfl ?_
                      refine jw_callWV (pc := 167) C [.long (((jI (sp_bm K V (sp_sum SH SL (ns + 0)) nh 5 10)).toInt64))] [] 1 (con_X6_mix lau D cI cB g co nh qk qv ns qh ql ch hd q9 q10 q11 q12 pl qp iw nw nz 0 sd qs ik kc ks kg kh k26 k27 k28 k29 k30 k31 k32 ((31 * ((31 * hv3 + ((jI (sp_dn K V (sp_sum SH SL (ns + 0)) nh (2 ^ nh - 1) 2)).toInt64))) + ((jI (sp_bh K V (sp_sum SH SL (ns + 0)) nh 5 10)).toInt64))) ((jI (sp_bm K V (sp_sum SH SL (ns + 0)) nh 5 10)).toInt64) ) gX6_digest_X6_mix rfl rfl rfl (by decide +kernel) ⟨Nat.le_of_ble_eq_true rfl, Nat.le_of_ble_eq_true rfl⟩ 0 rfl rfl [0] [1, 2, 3, 4, 5, 6, 7, 8, 9] [9, 0, 1, 2, 3, 4, 5, 6, 7, 8] (wr := [aI cI qk 5 K, aI cI qv 5 V, aI cI qh 7 u_163_16.1, aI cI ql 7 u_163_16.2, aI cI q9 6 HH, aI cI q10 6 HO, aI cI q11 6 HL, aI cI q12 6 HW, aI cB qp 25 P]) rfl rfl (by decide) (by decide) (fun _ => rfl) (wN := fun u_167_17 => [oM g co ((nh : Nat) : Int) qk qv ((ns : Nat) : Int) qh ql ch ((hd : Nat) : Int) q9 q10 q11 q12 ((pl : Nat) : Int) qp iw nw nz ((0 : Nat) : Int) sd qs ik kc ((ks : Nat) : Int) kg ((kh : Nat) : Int) k26 k27 k28 k29 k30 k31 k32 (31 * ((31 * ((31 * hv3 + ((jI (sp_dn K V (sp_sum SH SL (ns + 0)) nh (2 ^ nh - 1) 2)).toInt64))) + ((jI (sp_bh K V (sp_sum SH SL (ns + 0)) nh 5 10)).toInt64))) + ((jI (sp_bm K V (sp_sum SH SL (ns + 0)) nh 5 10)).toInt64)), aI cI qk 5 K, aI cI qv 5 V, aI cI qh 7 u_163_16.1, aI cI ql 7 u_163_16.2, aI cI q9 6 HH, aI cI q10 6 HO, aI cI q11 6 HL, aI cI q12 6 HW, aI cB qp 25 P]) (fun _ => rfl) (stN := fun u_167_17 => []) (fun _ => rfl) rfl (Nat.le_of_ble_eq_true rfl) rfl dX6_digest_167 (fun u_167_17 hu_167_17 => ?_)
                      refine jw_aload_n (pc := 170) C dX6_digest_170 0 rfl ?_
                      refine jw_aload_n (pc := 171) C dX6_digest_171 0 rfl ?_
                      refine jw_callWV (pc := 172) C [] [.ref g] 0 (con_X6_hoursNow lau D cI cB g co nh qk qv ns qh ql ch hd q9 q10 q11 q12 pl qp iw nw nz sd qs ik kc ks kg kh k26 k27 k28 k29 k30 k31 k32 (31 * ((31 * ((31 * hv3 + ((jI (sp_dn K V (sp_sum SH SL (ns + 0)) nh (2 ^ nh - 1) 2)).toInt64))) + ((jI (sp_bh K V (sp_sum SH SL (ns + 0)) nh 5 10)).toInt64))) + ((jI (sp_bm K V (sp_sum SH SL (ns + 0)) nh 5 10)).toInt64)) K V u_163_16.1 u_163_16.2 HH HO HL HW (by omega) (by omega) (by omega) (sp_bcd hS hp2b.1 hp2b.2) hK hV hH) gX6_digest_X6_hoursNow rfl rfl rfl (by decide +kernel) ⟨Nat.le_of_ble_eq_true rfl, Nat.le_of_ble_eq_true rfl⟩ 0 rfl rfl [0, 1, 2, 3, 4, 5, 6, 7, 8] [9] [1, 2, 3, 4, 5, 6, 7, 8, 9, 0] (wr := [aI cB qp 25 P]) rfl rfl (by decide) (by decide) (fun _ => rfl) (wN := fun u_172_18 => [oM g co ((nh : Nat) : Int) qk qv ((ns : Nat) : Int) qh ql ch ((hd : Nat) : Int) q9 q10 q11 q12 ((pl : Nat) : Int) qp iw nw nz ((0 : Nat) : Int) sd qs ik kc ((ks : Nat) : Int) kg ((kh : Nat) : Int) k26 k27 k28 k29 k30 k31 k32 ((31 * ((31 * ((31 * hv3 + ((jI (sp_dn K V (sp_sum SH SL (ns + 0)) nh (2 ^ nh - 1) 2)).toInt64))) + ((jI (sp_bh K V (sp_sum SH SL (ns + 0)) nh 5 10)).toInt64))) + ((jI (sp_bm K V (sp_sum SH SL (ns + 0)) nh 5 10)).toInt64))), aI cI qk 5 K, aI cI qv 5 V, aI cI qh 7 u_172_18.1, aI cI ql 7 u_172_18.2, aI cI q9 6 HH, aI cI q10 6 HO, aI cI q11 6 HL, aI cI q12 6 HW, aI cB qp 25 P]) (fun _ => rfl) (stN := fun u_172_18 => [.int (jI ((sp_hrs K V (sp_sum u_163_16.1 u_163_16.2 (ns + 0)) HH HO HL HW hd : Nat) : Int)), .ref g]) (fun _ => rfl) rfl (Nat.le_of_ble_eq_true rfl) rfl dX6_digest_172 (fun u_172_18 hu_172_18 => ?_)
                      (try dsimp only at hu_172_18)
                      have hp3 : (∀ j, j < ns → u_172_18.1 j = SH j) ∧ (∀ j, j < ns → u_172_18.2 j = SL j) := ⟨fun j hj => (hu_172_18.1 j hj).trans (hp2b.1 j hj), fun j hj => (hu_172_18.2 j hj).trans (hp2b.2 j hj)⟩
                      have eR2 := sp_sum_congr (n := ns + 0) hp2b.1 hp2b.2
                      refine jw_top (y := jI (((sp_hrs K V (sp_sum SH SL (ns + 0)) HH HO HL HW hd : Nat) : Int))) (congrArg jI (by rw [eR2])) ?_
                      refine jw_i2l (pc := 175) C ((jI (((sp_hrs K V (sp_sum SH SL (ns + 0)) HH HO HL HW hd : Nat) : Int))).toInt64) dX6_digest_175 rfl ?_
                      refine jw_callWV (pc := 176) C [.long (((jI (((sp_hrs K V (sp_sum SH SL (ns + 0)) HH HO HL HW hd : Nat) : Int))).toInt64))] [] 1 (con_X6_mix lau D cI cB g co nh qk qv ns qh ql ch hd q9 q10 q11 q12 pl qp iw nw nz 0 sd qs ik kc ks kg kh k26 k27 k28 k29 k30 k31 k32 ((31 * ((31 * ((31 * hv3 + ((jI (sp_dn K V (sp_sum SH SL (ns + 0)) nh (2 ^ nh - 1) 2)).toInt64))) + ((jI (sp_bh K V (sp_sum SH SL (ns + 0)) nh 5 10)).toInt64))) + ((jI (sp_bm K V (sp_sum SH SL (ns + 0)) nh 5 10)).toInt64))) ((jI (((sp_hrs K V (sp_sum SH SL (ns + 0)) HH HO HL HW hd : Nat) : Int))).toInt64) ) gX6_digest_X6_mix rfl rfl rfl (by decide +kernel) ⟨Nat.le_of_ble_eq_true rfl, Nat.le_of_ble_eq_true rfl⟩ 0 rfl rfl [0] [1, 2, 3, 4, 5, 6, 7, 8, 9] [9, 0, 1, 2, 3, 4, 5, 6, 7, 8] (wr := [aI cI qk 5 K, aI cI qv 5 V, aI cI qh 7 u_172_18.1, aI cI ql 7 u_172_18.2, aI cI q9 6 HH, aI cI q10 6 HO, aI cI q11 6 HL, aI cI q12 6 HW, aI cB qp 25 P]) rfl rfl (by decide) (by decide) (fun _ => rfl) (wN := fun u_176_19 => [oM g co ((nh : Nat) : Int) qk qv ((ns : Nat) : Int) qh ql ch ((hd : Nat) : Int) q9 q10 q11 q12 ((pl : Nat) : Int) qp iw nw nz ((0 : Nat) : Int) sd qs ik kc ((ks : Nat) : Int) kg ((kh : Nat) : Int) k26 k27 k28 k29 k30 k31 k32 (31 * ((31 * ((31 * ((31 * hv3 + ((jI (sp_dn K V (sp_sum SH SL (ns + 0)) nh (2 ^ nh - 1) 2)).toInt64))) + ((jI (sp_bh K V (sp_sum SH SL (ns + 0)) nh 5 10)).toInt64))) + ((jI (sp_bm K V (sp_sum SH SL (ns + 0)) nh 5 10)).toInt64))) + ((jI (((sp_hrs K V (sp_sum SH SL (ns + 0)) HH HO HL HW hd : Nat) : Int))).toInt64)), aI cI qk 5 K, aI cI qv 5 V, aI cI qh 7 u_172_18.1, aI cI ql 7 u_172_18.2, aI cI q9 6 HH, aI cI q10 6 HO, aI cI q11 6 HL, aI cI q12 6 HW, aI cB qp 25 P]) (fun _ => rfl) (stN := fun u_176_19 => []) (fun _ => rfl) rfl (Nat.le_of_ble_eq_true rfl) rfl dX6_digest_176 (fun u_176_19 hu_176_19 => ?_)
                      refine jw_aload_n (pc := 179) C dX6_digest_179 0 rfl ?_
                      refine jw_aload_n (pc := 180) C dX6_digest_180 0 rfl ?_
                      refine jw_iconst (pc := 181) C dX6_digest_181 ?_
                      refine jw_callWV (pc := 182) C [.int (jI ((4 : Nat) : Int))] [.ref g] 1 (con_X6_askNow lau D cI cB g co nh qk qv ns qh ql ch hd q9 q10 q11 q12 pl qp iw nw nz sd qs ik kc ks kg kh k26 k27 k28 k29 k30 k31 k32 (31 * ((31 * ((31 * ((31 * hv3 + ((jI (sp_dn K V (sp_sum SH SL (ns + 0)) nh (2 ^ nh - 1) 2)).toInt64))) + ((jI (sp_bh K V (sp_sum SH SL (ns + 0)) nh 5 10)).toInt64))) + ((jI (sp_bm K V (sp_sum SH SL (ns + 0)) nh 5 10)).toInt64))) + ((jI (((sp_hrs K V (sp_sum SH SL (ns + 0)) HH HO HL HW hd : Nat) : Int))).toInt64)) K V u_172_18.1 u_172_18.2 HH HO HL HW 4 (by omega) (by omega) (by omega) (sp_bcd hS hp3.1 hp3.2) hK hV hH (by omega)) gX6_digest_X6_askNow rfl rfl rfl (by decide +kernel) ⟨Nat.le_of_ble_eq_true rfl, Nat.le_of_ble_eq_true rfl⟩ 0 rfl rfl [0, 1, 2, 3, 4, 5, 6, 7, 8] [9] [1, 2, 3, 4, 5, 6, 7, 8, 9, 0] (wr := [aI cB qp 25 P]) rfl rfl (by decide) (by decide) (fun _ => rfl) (wN := fun u_182_20 => [oM g co ((nh : Nat) : Int) qk qv ((ns : Nat) : Int) qh ql ch ((hd : Nat) : Int) q9 q10 q11 q12 ((pl : Nat) : Int) qp iw nw nz ((0 : Nat) : Int) sd qs ik kc ((ks : Nat) : Int) kg ((kh : Nat) : Int) k26 k27 k28 k29 k30 k31 k32 ((31 * ((31 * ((31 * ((31 * hv3 + ((jI (sp_dn K V (sp_sum SH SL (ns + 0)) nh (2 ^ nh - 1) 2)).toInt64))) + ((jI (sp_bh K V (sp_sum SH SL (ns + 0)) nh 5 10)).toInt64))) + ((jI (sp_bm K V (sp_sum SH SL (ns + 0)) nh 5 10)).toInt64))) + ((jI (((sp_hrs K V (sp_sum SH SL (ns + 0)) HH HO HL HW hd : Nat) : Int))).toInt64))), aI cI qk 5 K, aI cI qv 5 V, aI cI qh 7 u_182_20.1, aI cI ql 7 u_182_20.2, aI cI q9 6 HH, aI cI q10 6 HO, aI cI q11 6 HL, aI cI q12 6 HW, aI cB qp 25 P]) (fun _ => rfl) (stN := fun u_182_20 => [.int (jI (sp_askv K V (sp_sum u_172_18.1 u_172_18.2 (ns + 0)) nh (sp_hrs K V (sp_sum u_172_18.1 u_172_18.2 (ns + 0)) HH HO HL HW hd) hd (HL (hd - 1)) 4)), .ref g]) (fun _ => rfl) rfl (Nat.le_of_ble_eq_true rfl) rfl dX6_digest_182 (fun u_182_20 hu_182_20 => ?_)
                      (try dsimp only at hu_182_20)
                      have hp4 : (∀ j, j < ns → u_182_20.1 j = SH j) ∧ (∀ j, j < ns → u_182_20.2 j = SL j) := ⟨fun j hj => (hu_182_20.1 j hj).trans (hp3.1 j hj), fun j hj => (hu_182_20.2 j hj).trans (hp3.2 j hj)⟩
                      have eR3 := sp_sum_congr (n := ns + 0) hp3.1 hp3.2
                      refine jw_top (y := jI (sp_askv K V (sp_sum SH SL (ns + 0)) nh (sp_hrs K V (sp_sum SH SL (ns + 0)) HH HO HL HW hd) hd (HL (hd - 1)) 4)) (congrArg jI (by rw [eR3])) ?_
                      refine jw_i2l (pc := 185) C ((jI (sp_askv K V (sp_sum SH SL (ns + 0)) nh (sp_hrs K V (sp_sum SH SL (ns + 0)) HH HO HL HW hd) hd (HL (hd - 1)) 4)).toInt64) dX6_digest_185 rfl ?_
                      refine jw_callWV (pc := 186) C [.long (((jI (sp_askv K V (sp_sum SH SL (ns + 0)) nh (sp_hrs K V (sp_sum SH SL (ns + 0)) HH HO HL HW hd) hd (HL (hd - 1)) 4)).toInt64))] [] 1 (con_X6_mix lau D cI cB g co nh qk qv ns qh ql ch hd q9 q10 q11 q12 pl qp iw nw nz 0 sd qs ik kc ks kg kh k26 k27 k28 k29 k30 k31 k32 ((31 * ((31 * ((31 * ((31 * hv3 + ((jI (sp_dn K V (sp_sum SH SL (ns + 0)) nh (2 ^ nh - 1) 2)).toInt64))) + ((jI (sp_bh K V (sp_sum SH SL (ns + 0)) nh 5 10)).toInt64))) + ((jI (sp_bm K V (sp_sum SH SL (ns + 0)) nh 5 10)).toInt64))) + ((jI (((sp_hrs K V (sp_sum SH SL (ns + 0)) HH HO HL HW hd : Nat) : Int))).toInt64))) ((jI (sp_askv K V (sp_sum SH SL (ns + 0)) nh (sp_hrs K V (sp_sum SH SL (ns + 0)) HH HO HL HW hd) hd (HL (hd - 1)) 4)).toInt64) ) gX6_digest_X6_mix rfl rfl rfl (by decide +kernel) ⟨Nat.le_of_ble_eq_true rfl, Nat.le_of_ble_eq_true rfl⟩ 0 rfl rfl [0] [1, 2, 3, 4, 5, 6, 7, 8, 9] [9, 0, 1, 2, 3, 4, 5, 6, 7, 8] (wr := [aI cI qk 5 K, aI cI qv 5 V, aI cI qh 7 u_182_20.1, aI cI ql 7 u_182_20.2, aI cI q9 6 HH, aI cI q10 6 HO, aI cI q11 6 HL, aI cI q12 6 HW, aI cB qp 25 P]) rfl rfl (by decide) (by decide) (fun _ => rfl) (wN := fun u_186_21 => [oM g co ((nh : Nat) : Int) qk qv ((ns : Nat) : Int) qh ql ch ((hd : Nat) : Int) q9 q10 q11 q12 ((pl : Nat) : Int) qp iw nw nz ((0 : Nat) : Int) sd qs ik kc ((ks : Nat) : Int) kg ((kh : Nat) : Int) k26 k27 k28 k29 k30 k31 k32 (31 * ((31 * ((31 * ((31 * ((31 * hv3 + ((jI (sp_dn K V (sp_sum SH SL (ns + 0)) nh (2 ^ nh - 1) 2)).toInt64))) + ((jI (sp_bh K V (sp_sum SH SL (ns + 0)) nh 5 10)).toInt64))) + ((jI (sp_bm K V (sp_sum SH SL (ns + 0)) nh 5 10)).toInt64))) + ((jI (((sp_hrs K V (sp_sum SH SL (ns + 0)) HH HO HL HW hd : Nat) : Int))).toInt64))) + ((jI (sp_askv K V (sp_sum SH SL (ns + 0)) nh (sp_hrs K V (sp_sum SH SL (ns + 0)) HH HO HL HW hd) hd (HL (hd - 1)) 4)).toInt64)), aI cI qk 5 K, aI cI qv 5 V, aI cI qh 7 u_182_20.1, aI cI ql 7 u_182_20.2, aI cI q9 6 HH, aI cI q10 6 HO, aI cI q11 6 HL, aI cI q12 6 HW, aI cB qp 25 P]) (fun _ => rfl) (stN := fun u_186_21 => []) (fun _ => rfl) rfl (Nat.le_of_ble_eq_true rfl) rfl dX6_digest_186 (fun u_186_21 hu_186_21 => ?_)
                      refine jw_iconst (pc := 189) C dX6_digest_189 ?_
                      refine jw_istore_n (pc := 190) (lv' := [(1, .int (jI 0)), (0, .ref g)]) C dX6_digest_190 (by decide) rfl ?_
                      have lp_191_22 : ∀ (fu : Nat) (j : Nat) (hv4 : Int64) (c : Nat → Int) (d : Nat → Int), (j ≤ pl) → (hv4 = sp_mf P j (if 0 < nh then sp_dg2 nh K V (sp_sum SH SL (ns + 0)) HH HO HL HW hd (sp_dg1 nh ns K V (sp_sum SH SL (ns + 0)) SH SL) else sp_dg1 nh ns K V (sp_sum SH SL (ns + 0)) SH SL)) → (∀ y, y < ns → c y = SH y) → (∀ y, y < ns → d y = SL y) → pl - j < fu → jW X 191 [(0, .ref g), (1, .int (jI ((j : Nat) : Int)))] [] [oM g co ((nh : Nat) : Int) qk qv ((ns : Nat) : Int) qh ql ch ((hd : Nat) : Int) q9 q10 q11 q12 ((pl : Nat) : Int) qp iw nw nz ((0 : Nat) : Int) sd qs ik kc ((ks : Nat) : Int) kg ((kh : Nat) : Int) k26 k27 k28 k29 k30 k31 k32 hv4, aI cI qk 5 K, aI cI qv 5 V, aI cI qh 7 c, aI cI ql 7 d, aI cI q9 6 HH, aI cI q10 6 HO, aI cI q11 6 HL, aI cI q12 6 HW, aI cB qp 25 P] := by
                        intro fu
                        induction fu with
                        | zero => intro j hv4 c d hj hhv4 hc hdl hm; exact absurd hm (Nat.not_lt_zero _)
                        | succ fu ih_23 =>
                          intro j hv4 c d hj hhv4 hc hdl hm
                          refine jw_iload_n (pc := 191) C dX6_digest_191 1 rfl ?_
                          refine jw_aload_n (pc := 192) C dX6_digest_192 0 rfl ?_
                          refine jw_get (pc := 193) C hi_X6_digest_X6 0 rfl rfl 13 (by decide) fl_X6_digest_66 rfl rfl dX6_digest_193 ?_
                          refine jw_icmp_ge (pc := 196) (tgt := 216) C dX6_digest_196 (by decide) (by omega) (by omega) (fun c_196 => ?_) (fun c_196 => ?_)
                          · -- 196 t
                            refine jw_iconst (pc := 216) C dX6_digest_216 ?_
                            refine jw_istore_n (pc := 217) (lv' := [(1, .int (jI 0)), (0, .ref g)]) C dX6_digest_217 (by decide) rfl ?_
                            have lp_218_24 : ∀ (fu : Nat) (w5 : Nat) (hv5 : Int64), (w5 ≤ 9) → (hv5 = sp_mf (fun q => sp_count nh ns K V (sp_sum SH SL (ns + 0)) ch hd pl co ((q : Nat) : Int)) w5 (sp_mf P pl (if 0 < nh then sp_dg2 nh K V (sp_sum SH SL (ns + 0)) HH HO HL HW hd (sp_dg1 nh ns K V (sp_sum SH SL (ns + 0)) SH SL) else sp_dg1 nh ns K V (sp_sum SH SL (ns + 0)) SH SL))) → 9 - w5 < fu → jW X 218 [(0, .ref g), (1, .int (jI ((w5 : Nat) : Int)))] [] [oM g co ((nh : Nat) : Int) qk qv ((ns : Nat) : Int) qh ql ch ((hd : Nat) : Int) q9 q10 q11 q12 ((pl : Nat) : Int) qp iw nw nz ((0 : Nat) : Int) sd qs ik kc ((ks : Nat) : Int) kg ((kh : Nat) : Int) k26 k27 k28 k29 k30 k31 k32 hv5, aI cI qk 5 K, aI cI qv 5 V, aI cI qh 7 c, aI cI ql 7 d, aI cI q9 6 HH, aI cI q10 6 HO, aI cI q11 6 HL, aI cI q12 6 HW, aI cB qp 25 P] := by
                              intro fu
                              induction fu with
                              | zero => intro w5 hv5 hw9 hhv5 hm; exact absurd hm (Nat.not_lt_zero _)
                              | succ fu ih_25 =>
                                intro w5 hv5 hw9 hhv5 hm
                                refine jw_iload_n (pc := 218) C dX6_digest_218 1 rfl ?_
                                refine jw_bipush (pc := 219) C dX6_digest_219 (by decide +kernel) ?_
                                refine jw_icmp_ge (pc := 221) (tgt := 240) C dX6_digest_221 (by decide) (by omega) (by omega) (fun c_221 => ?_) (fun c_221 => ?_)
                                · -- 221 t
                                  refine jw_aload_n (pc := 240) C dX6_digest_240 0 rfl ?_
                                  refine jw_get (pc := 241) C hi_X6_digest_X6 0 rfl rfl 33 (by decide) fl_X6_digest_225 rfl rfl dX6_digest_241 ?_
                                  exact jw_lretW (pc := 244) C E dX6_digest_244 (((c), (d))) (congrArg (fun z => some (Value.long z)) (by rw [hhv5, show w5 = 9 by omega]; rfl)) (by first | exact ⟨hc, hdl⟩ | exact hp4 | exact ⟨fun _ _ => rfl, fun _ _ => rfl⟩) (by rw [hhv5, show w5 = 9 by omega]; rfl)
                                · -- 221 f
                                  have eR := sp_sum_congr (n := ns + 0) hc hdl
                                  refine jw_aload_n (pc := 224) C dX6_digest_224 0 rfl ?_
                                  refine jw_aload_n (pc := 225) C dX6_digest_225 0 rfl ?_
                                  refine jw_iload_n (pc := 226) C dX6_digest_226 1 rfl ?_
                                  refine jw_callRV (pc := 227) C [.int (jI ((((w5 : Nat) : Int))))] [.ref g] 1 (con_X6_howMany lau D cI cB g co nh qk qv ns qh ql ch hd q9 q10 q11 q12 pl qp iw nw nz sd qs ik kc ks kg kh k26 k27 k28 k29 k30 k31 k32 hv5 K V c d (((w5 : Nat) : Int)) (by omega) (by omega) (sp_bcd hS hc hdl) hK hV hz (by omega)) gX6_digest_X6_howMany rfl rfl rfl (by decide +kernel) ⟨Nat.le_of_ble_eq_true rfl, Nat.le_of_ble_eq_true rfl⟩ 0 rfl rfl [0, 1, 2, 3, 4] rfl rfl (Nat.le_of_ble_eq_true rfl) rfl dX6_digest_227 ?_
                                  refine jw_top (y := jI (sp_count nh ns K V (sp_sum SH SL (ns + 0)) ch hd pl co ((w5 : Nat) : Int))) (congrArg jI (by rw [eR])) ?_
                                  refine jw_i2l (pc := 230) C ((jI (sp_count nh ns K V (sp_sum SH SL (ns + 0)) ch hd pl co ((w5 : Nat) : Int))).toInt64) dX6_digest_230 rfl ?_
                                  refine jw_callWV (pc := 231) C [.long (((jI (sp_count nh ns K V (sp_sum SH SL (ns + 0)) ch hd pl co ((w5 : Nat) : Int))).toInt64))] [] 1 (con_X6_mix lau D cI cB g co nh qk qv ns qh ql ch hd q9 q10 q11 q12 pl qp iw nw nz 0 sd qs ik kc ks kg kh k26 k27 k28 k29 k30 k31 k32 hv5 ((jI (sp_count nh ns K V (sp_sum SH SL (ns + 0)) ch hd pl co ((w5 : Nat) : Int))).toInt64) ) gX6_digest_X6_mix rfl rfl rfl (by decide +kernel) ⟨Nat.le_of_ble_eq_true rfl, Nat.le_of_ble_eq_true rfl⟩ 0 rfl rfl [0] [1, 2, 3, 4, 5, 6, 7, 8, 9] [9, 0, 1, 2, 3, 4, 5, 6, 7, 8] (wr := [aI cI qk 5 K, aI cI qv 5 V, aI cI qh 7 c, aI cI ql 7 d, aI cI q9 6 HH, aI cI q10 6 HO, aI cI q11 6 HL, aI cI q12 6 HW, aI cB qp 25 P]) rfl rfl (by decide) (by decide) (fun _ => rfl) (wN := fun u_231_26 => [oM g co ((nh : Nat) : Int) qk qv ((ns : Nat) : Int) qh ql ch ((hd : Nat) : Int) q9 q10 q11 q12 ((pl : Nat) : Int) qp iw nw nz ((0 : Nat) : Int) sd qs ik kc ((ks : Nat) : Int) kg ((kh : Nat) : Int) k26 k27 k28 k29 k30 k31 k32 (31 * hv5 + ((jI (sp_count nh ns K V (sp_sum SH SL (ns + 0)) ch hd pl co ((w5 : Nat) : Int))).toInt64)), aI cI qk 5 K, aI cI qv 5 V, aI cI qh 7 c, aI cI ql 7 d, aI cI q9 6 HH, aI cI q10 6 HO, aI cI q11 6 HL, aI cI q12 6 HW, aI cB qp 25 P]) (fun _ => rfl) (stN := fun u_231_26 => []) (fun _ => rfl) rfl (Nat.le_of_ble_eq_true rfl) rfl dX6_digest_231 (fun u_231_26 hu_231_26 => ?_)
                                  refine jw_iinc (pc := 234) (z := ((w5 + 1 : Nat) : Int)) (lv' := [(1, .int (jI ((w5 + 1 : Nat) : Int))), (0, .ref g)]) C dX6_digest_234 1 rfl (by omega) (by decide) rfl ?_
                                  refine jw_goto (pc := 237) (tgt := 218) C dX6_digest_237 (by decide) ?_
                                  refine jw_lv [1, 0] rfl ?_
                                  exact ih_25 (w5 + 1) (31 * hv5 + ((jI (sp_count nh ns K V (sp_sum SH SL (ns + 0)) ch hd pl co ((w5 : Nat) : Int))).toInt64)) (by omega) (by rw [hhv5]; rfl) (by omega)
                            refine jw_lv [1, 0] rfl ?_
                            exact lp_218_24 ((9 - 0) + 1) 0 hv4 (by omega) (by rw [hhv4, show j = pl by omega]; rfl) (Nat.lt_succ_self _)
                          · -- 196 f
                            refine jw_aload_n (pc := 199) C dX6_digest_199 0 rfl ?_
                            refine jw_aload_n (pc := 200) C dX6_digest_200 0 rfl ?_
                            refine jw_get (pc := 201) C hi_X6_digest_X6 0 rfl rfl 14 (by decide) fl_X6_digest_34 rfl rfl dX6_digest_201 ?_
                            refine jw_iload_n (pc := 204) C dX6_digest_204 1 rfl ?_
                            refine jw_bald (pc := 205) C (f := P) 9 j rfl rfl (by omega) (by decide) dX6_digest_205 ?_
                            have r_205 := hP j (by omega)
                            refine jw_i2l (pc := 206) C ((jI (P j)).toInt64) dX6_digest_206 rfl ?_
                            refine jw_callWV (pc := 207) C [.long (((jI (P j)).toInt64))] [] 1 (con_X6_mix lau D cI cB g co nh qk qv ns qh ql ch hd q9 q10 q11 q12 pl qp iw nw nz 0 sd qs ik kc ks kg kh k26 k27 k28 k29 k30 k31 k32 hv4 ((jI (P j)).toInt64) ) gX6_digest_X6_mix rfl rfl rfl (by decide +kernel) ⟨Nat.le_of_ble_eq_true rfl, Nat.le_of_ble_eq_true rfl⟩ 0 rfl rfl [0] [1, 2, 3, 4, 5, 6, 7, 8, 9] [9, 0, 1, 2, 3, 4, 5, 6, 7, 8] (wr := [aI cI qk 5 K, aI cI qv 5 V, aI cI qh 7 c, aI cI ql 7 d, aI cI q9 6 HH, aI cI q10 6 HO, aI cI q11 6 HL, aI cI q12 6 HW, aI cB qp 25 P]) rfl rfl (by decide) (by decide) (fun _ => rfl) (wN := fun u_207_27 => [oM g co ((nh : Nat) : Int) qk qv ((ns : Nat) : Int) qh ql ch ((hd : Nat) : Int) q9 q10 q11 q12 ((pl : Nat) : Int) qp iw nw nz ((0 : Nat) : Int) sd qs ik kc ((ks : Nat) : Int) kg ((kh : Nat) : Int) k26 k27 k28 k29 k30 k31 k32 (31 * hv4 + ((jI (P j)).toInt64)), aI cI qk 5 K, aI cI qv 5 V, aI cI qh 7 c, aI cI ql 7 d, aI cI q9 6 HH, aI cI q10 6 HO, aI cI q11 6 HL, aI cI q12 6 HW, aI cB qp 25 P]) (fun _ => rfl) (stN := fun u_207_27 => []) (fun _ => rfl) rfl (Nat.le_of_ble_eq_true rfl) rfl dX6_digest_207 (fun u_207_27 hu_207_27 => ?_)
                            refine jw_iinc (pc := 210) (z := ((j + 1 : Nat) : Int)) (lv' := [(1, .int (jI ((j + 1 : Nat) : Int))), (0, .ref g)]) C dX6_digest_210 1 rfl (by omega) (by decide) rfl ?_
                            refine jw_goto (pc := 213) (tgt := 191) C dX6_digest_213 (by decide) ?_
                            refine jw_lv [1, 0] rfl ?_
                            exact ih_23 (j + 1) (31 * hv4 + ((jI (P j)).toInt64)) c d (by omega) (by rw [hhv4]; rfl) hc hdl (by omega)
                      refine jw_lv [1, 0] rfl ?_
                      exact lp_191_22 ((pl - 0) + 1) 0 (31 * ((31 * ((31 * ((31 * ((31 * hv3 + ((jI (sp_dn K V (sp_sum SH SL (ns + 0)) nh (2 ^ nh - 1) 2)).toInt64))) + ((jI (sp_bh K V (sp_sum SH SL (ns + 0)) nh 5 10)).toInt64))) + ((jI (sp_bm K V (sp_sum SH SL (ns + 0)) nh 5 10)).toInt64))) + ((jI (((sp_hrs K V (sp_sum SH SL (ns + 0)) HH HO HL HW hd : Nat) : Int))).toInt64))) + ((jI (sp_askv K V (sp_sum SH SL (ns + 0)) nh (sp_hrs K V (sp_sum SH SL (ns + 0)) HH HO HL HW hd) hd (HL (hd - 1)) 4)).toInt64)) u_182_20.1 u_182_20.2 (by omega) (by first | (rw [if_pos (by omega), hhv3, show i = 12 by omega]; rfl) | (rw [if_neg (by omega), hhv2, show e2 = ns by omega]; rfl)) (by first | exact (fun _ _ => rfl) | exact hp4.1) (by first | exact (fun _ _ => rfl) | exact hp4.2) (Nat.lt_succ_self _)
                    · -- 111 f
                      refine jw_aload_n (pc := 114) C dX6_digest_114 0 rfl ?_
                      refine jw_aload_n (pc := 115) C dX6_digest_115 0 rfl ?_
                      refine jw_iload_n (pc := 116) C dX6_digest_116 1 rfl ?_
                      refine jw_callRV (pc := 117) C [.int (jI ((i : Nat) : Int))] [.ref g] 1 (con_X6_tideAt lau D cI cB g co nh qk qv ns qh ql ch hd q9 q10 q11 q12 pl qp iw nw nz 0 sd qs ik kc ks kg kh k26 k27 k28 k29 k30 k31 k32 hv3 SH SL i (by omega) (by omega) hS (by omega)) gX6_digest_X6_tideAt rfl rfl rfl (by decide +kernel) ⟨Nat.le_of_ble_eq_true rfl, Nat.le_of_ble_eq_true rfl⟩ 0 rfl rfl [0, 3, 4] rfl rfl (Nat.le_of_ble_eq_true rfl) rfl dX6_digest_117 ?_
                      have b_117_0 := (show 0 ≤ sp_cap (sp_sum SH SL (ns + 0) i) ∧ sp_cap (sp_sum SH SL (ns + 0) i) ≤ 20 from sp_cap_b (sp_sum_b (ns + 0) (fun y hy => (hS y hy).2.2) i).1)
                      refine jw_i2l (pc := 120) C ((jI (sp_cap ((sp_sum SH SL (ns + 0)) i))).toInt64) dX6_digest_120 rfl ?_
                      refine jw_callWV (pc := 121) C [.long (((jI (sp_cap ((sp_sum SH SL (ns + 0)) i))).toInt64))] [] 1 (con_X6_mix lau D cI cB g co nh qk qv ns qh ql ch hd q9 q10 q11 q12 pl qp iw nw nz 0 sd qs ik kc ks kg kh k26 k27 k28 k29 k30 k31 k32 hv3 ((jI (sp_cap ((sp_sum SH SL (ns + 0)) i))).toInt64) ) gX6_digest_X6_mix rfl rfl rfl (by decide +kernel) ⟨Nat.le_of_ble_eq_true rfl, Nat.le_of_ble_eq_true rfl⟩ 0 rfl rfl [0] [1, 2, 3, 4, 5, 6, 7, 8, 9] [9, 0, 1, 2, 3, 4, 5, 6, 7, 8] (wr := [aI cI qk 5 K, aI cI qv 5 V, aI cI qh 7 SH, aI cI ql 7 SL, aI cI q9 6 HH, aI cI q10 6 HO, aI cI q11 6 HL, aI cI q12 6 HW, aI cB qp 25 P]) rfl rfl (by decide) (by decide) (fun _ => rfl) (wN := fun u_121_28 => [oM g co ((nh : Nat) : Int) qk qv ((ns : Nat) : Int) qh ql ch ((hd : Nat) : Int) q9 q10 q11 q12 ((pl : Nat) : Int) qp iw nw nz ((0 : Nat) : Int) sd qs ik kc ((ks : Nat) : Int) kg ((kh : Nat) : Int) k26 k27 k28 k29 k30 k31 k32 (31 * hv3 + ((jI (sp_cap ((sp_sum SH SL (ns + 0)) i))).toInt64)), aI cI qk 5 K, aI cI qv 5 V, aI cI qh 7 SH, aI cI ql 7 SL, aI cI q9 6 HH, aI cI q10 6 HO, aI cI q11 6 HL, aI cI q12 6 HW, aI cB qp 25 P]) (fun _ => rfl) (stN := fun u_121_28 => []) (fun _ => rfl) rfl (Nat.le_of_ble_eq_true rfl) rfl dX6_digest_121 (fun u_121_28 hu_121_28 => ?_)
                      refine jw_iinc (pc := 124) (z := ((i + 1 : Nat) : Int)) (lv' := [(1, .int (jI ((i + 1 : Nat) : Int))), (0, .ref g)]) C dX6_digest_124 1 rfl (by omega) (by decide) rfl ?_
                      refine jw_goto (pc := 127) (tgt := 108) C dX6_digest_127 (by decide) ?_
                      refine jw_lv [1, 0] rfl ?_
                      exact ih_12 (i + 1) (31 * hv3 + ((jI (sp_cap ((sp_sum SH SL (ns + 0)) i))).toInt64)) (by omega) (by rw [hhv3]; rfl) (by omega)
                refine jw_lv [1, 0] rfl ?_
                exact lp_108_11 ((12 - 0) + 1) 0 hv2 (by omega) (by rw [hhv2, show e2 = ns by omega]; rfl) (Nat.lt_succ_self _)
            · -- 66 f
              refine jw_iconst (pc := 69) C dX6_digest_69 ?_
              refine jw_istore_n (pc := 70) (lv' := [(2, .int (jI 0)), (0, .ref g), (1, .int (jI ((e2 : Nat) : Int)))]) C dX6_digest_70 (by decide) rfl ?_
              have lp_71_29 : ∀ (fu : Nat) (w2 : Nat) (h2v : Int64), (w2 ≤ 3) → (h2v = sp_mf (fun q => sp_sA SH SL e2 ((q : Nat) : Int)) w2 hv2) → 3 - w2 < fu → jW X 71 [(0, .ref g), (1, .int (jI ((e2 : Nat) : Int))), (2, .int (jI ((w2 : Nat) : Int)))] [] [oM g co ((nh : Nat) : Int) qk qv ((ns : Nat) : Int) qh ql ch ((hd : Nat) : Int) q9 q10 q11 q12 ((pl : Nat) : Int) qp iw nw nz ((0 : Nat) : Int) sd qs ik kc ((ks : Nat) : Int) kg ((kh : Nat) : Int) k26 k27 k28 k29 k30 k31 k32 h2v, aI cI qk 5 K, aI cI qv 5 V, aI cI qh 7 SH, aI cI ql 7 SL, aI cI q9 6 HH, aI cI q10 6 HO, aI cI q11 6 HL, aI cI q12 6 HW, aI cB qp 25 P] := by
                intro fu
                induction fu with
                | zero => intro w2 h2v hw3 hh2 hm; exact absurd hm (Nat.not_lt_zero _)
                | succ fu ih_30 =>
                  intro w2 h2v hw3 hh2 hm
                  refine jw_iload_n (pc := 71) C dX6_digest_71 2 rfl ?_
                  refine jw_iconst (pc := 72) C dX6_digest_72 ?_
                  refine jw_icmp_ge (pc := 73) (tgt := 93) C dX6_digest_73 (by decide) (by omega) (by omega) (fun c_73 => ?_) (fun c_73 => ?_)
                  · -- 73 t
                    refine jw_iinc (pc := 93) (z := ((e2 + 1 : Nat) : Int)) (lv' := [(1, .int (jI ((e2 + 1 : Nat) : Int))), (0, .ref g), (2, .int (jI ((w2 : Nat) : Int)))]) C dX6_digest_93 1 rfl (by omega) (by decide) rfl ?_
                    refine jw_goto (pc := 96) (tgt := 61) C dX6_digest_96 (by decide) ?_
                    refine jw_lv [1, 0] rfl ?_
                    exact ih_4 (e2 + 1) h2v (by omega) (by rw [hh2, show w2 = 3 by omega, hhv2]; rfl) (by omega)
                  · -- 73 f
                    refine jw_aload_n (pc := 76) C dX6_digest_76 0 rfl ?_
                    refine jw_aload_n (pc := 77) C dX6_digest_77 0 rfl ?_
                    refine jw_iload_n (pc := 78) C dX6_digest_78 1 rfl ?_
                    refine jw_iload_n (pc := 79) C dX6_digest_79 2 rfl ?_
                    refine jw_callRV (pc := 80) C [.int (jI ((e2 : Nat) : Int)), .int (jI ((((w2 : Nat) : Int))))] [.ref g] 2 (con_X6_strokeNow lau D cI cB g co nh qk qv ns qh ql ch hd q9 q10 q11 q12 pl qp iw nw nz 0 sd qs ik kc ks kg kh k26 k27 k28 k29 k30 k31 k32 h2v SH SL e2 (((w2 : Nat) : Int)) (by omega) (by omega) (by have := hS e2 (by omega); omega) (by omega)) gX6_digest_X6_strokeNow rfl rfl rfl (by decide +kernel) ⟨Nat.le_of_ble_eq_true rfl, Nat.le_of_ble_eq_true rfl⟩ 0 rfl rfl [0, 3, 4] rfl rfl (Nat.le_of_ble_eq_true rfl) rfl dX6_digest_80 ?_
                    refine jw_top (y := jI (sp_sA SH SL e2 ((w2 : Nat) : Int))) (congrArg jI rfl) ?_
                    refine jw_i2l (pc := 83) C ((jI (sp_sA SH SL e2 ((w2 : Nat) : Int))).toInt64) dX6_digest_83 rfl ?_
                    refine jw_callWV (pc := 84) C [.long (((jI (sp_sA SH SL e2 ((w2 : Nat) : Int))).toInt64))] [] 1 (con_X6_mix lau D cI cB g co nh qk qv ns qh ql ch hd q9 q10 q11 q12 pl qp iw nw nz 0 sd qs ik kc ks kg kh k26 k27 k28 k29 k30 k31 k32 h2v ((jI (sp_sA SH SL e2 ((w2 : Nat) : Int))).toInt64) ) gX6_digest_X6_mix rfl rfl rfl (by decide +kernel) ⟨Nat.le_of_ble_eq_true rfl, Nat.le_of_ble_eq_true rfl⟩ 0 rfl rfl [0] [1, 2, 3, 4, 5, 6, 7, 8, 9] [9, 0, 1, 2, 3, 4, 5, 6, 7, 8] (wr := [aI cI qk 5 K, aI cI qv 5 V, aI cI qh 7 SH, aI cI ql 7 SL, aI cI q9 6 HH, aI cI q10 6 HO, aI cI q11 6 HL, aI cI q12 6 HW, aI cB qp 25 P]) rfl rfl (by decide) (by decide) (fun _ => rfl) (wN := fun u_84_31 => [oM g co ((nh : Nat) : Int) qk qv ((ns : Nat) : Int) qh ql ch ((hd : Nat) : Int) q9 q10 q11 q12 ((pl : Nat) : Int) qp iw nw nz ((0 : Nat) : Int) sd qs ik kc ((ks : Nat) : Int) kg ((kh : Nat) : Int) k26 k27 k28 k29 k30 k31 k32 (31 * h2v + ((jI (sp_sA SH SL e2 ((w2 : Nat) : Int))).toInt64)), aI cI qk 5 K, aI cI qv 5 V, aI cI qh 7 SH, aI cI ql 7 SL, aI cI q9 6 HH, aI cI q10 6 HO, aI cI q11 6 HL, aI cI q12 6 HW, aI cB qp 25 P]) (fun _ => rfl) (stN := fun u_84_31 => []) (fun _ => rfl) rfl (Nat.le_of_ble_eq_true rfl) rfl dX6_digest_84 (fun u_84_31 hu_84_31 => ?_)
                    refine jw_iinc (pc := 87) (z := ((w2 + 1 : Nat) : Int)) (lv' := [(2, .int (jI ((w2 + 1 : Nat) : Int))), (0, .ref g), (1, .int (jI ((e2 : Nat) : Int)))]) C dX6_digest_87 2 rfl (by omega) (by decide) rfl ?_
                    refine jw_goto (pc := 90) (tgt := 71) C dX6_digest_90 (by decide) ?_
                    refine jw_lv [1, 2, 0] rfl ?_
                    exact ih_30 (w2 + 1) (31 * h2v + ((jI (sp_sA SH SL e2 ((w2 : Nat) : Int))).toInt64)) (by omega) (by rw [hh2]; rfl) (by omega)
              refine jw_lv [1, 2, 0] rfl ?_
              exact lp_71_29 ((3 - 0) + 1) 0 hv2 (by omega) rfl (Nat.lt_succ_self _)
        refine jw_lv [1, 0] rfl ?_
        exact lp_61_3 ((ns - 0) + 1) 0 hv (by omega) (by rw [hhv, show e = nh by omega]; rfl) (Nat.lt_succ_self _)
      · -- 14 f
        refine jw_iconst (pc := 17) C dX6_digest_17 ?_
        refine jw_istore_n (pc := 18) (lv' := [(2, .int (jI 0)), (0, .ref g), (1, .int (jI ((e : Nat) : Int)))]) C dX6_digest_18 (by decide) rfl ?_
        have lp_19_32 : ∀ (fu : Nat) (w : Nat) (h1 : Int64), (w ≤ 22) → (h1 = sp_in (fun q => sp_hA K V (sp_sum SH SL (ns + 0)) e q) hv w) → 22 - w < fu → jW X 19 [(0, .ref g), (1, .int (jI ((e : Nat) : Int))), (2, .int (jI ((w : Nat) : Int)))] [] [oM g co ((nh : Nat) : Int) qk qv ((ns : Nat) : Int) qh ql ch ((hd : Nat) : Int) q9 q10 q11 q12 ((pl : Nat) : Int) qp iw nw nz ((0 : Nat) : Int) sd qs ik kc ((ks : Nat) : Int) kg ((kh : Nat) : Int) k26 k27 k28 k29 k30 k31 k32 h1, aI cI qk 5 K, aI cI qv 5 V, aI cI qh 7 SH, aI cI ql 7 SL, aI cI q9 6 HH, aI cI q10 6 HO, aI cI q11 6 HL, aI cI q12 6 HW, aI cB qp 25 P] := by
          intro fu
          induction fu with
          | zero => intro w h1 hw22 hh1 hm; exact absurd hm (Nat.not_lt_zero _)
          | succ fu ih_33 =>
            intro w h1 hw22 hh1 hm
            refine jw_iload_n (pc := 19) C dX6_digest_19 2 rfl ?_
            refine jw_bipush (pc := 20) C dX6_digest_20 (by decide +kernel) ?_
            refine jw_icmp_ge (pc := 22) (tgt := 53) C dX6_digest_22 (by decide) (by omega) (by omega) (fun c_22 => ?_) (fun c_22 => ?_)
            · -- 22 t
              refine jw_iinc (pc := 53) (z := ((e + 1 : Nat) : Int)) (lv' := [(1, .int (jI ((e + 1 : Nat) : Int))), (0, .ref g), (2, .int (jI ((w : Nat) : Int)))]) C dX6_digest_53 1 rfl (by omega) (by decide) rfl ?_
              refine jw_goto (pc := 56) (tgt := 9) C dX6_digest_56 (by decide) ?_
              refine jw_lv [1, 0] rfl ?_
              exact ih_2 (e + 1) h1 (by omega) (by rw [hh1, show w = 22 by omega, hhv]; rfl) (by omega)
            · -- 22 f
              refine jw_iload_n (pc := 25) C dX6_digest_25 2 rfl ?_
              refine jw_iconst (pc := 26) C dX6_digest_26 ?_
              refine jw_icmp_lt (pc := 27) (tgt := 36) C dX6_digest_27 (by decide) (by omega) (by omega) (fun c_27 => ?_) (fun c_27 => ?_)
              · -- 27 t
                refine jw_aload_n (pc := 36) C dX6_digest_36 0 rfl ?_
                refine jw_aload_n (pc := 37) C dX6_digest_37 0 rfl ?_
                refine jw_iload_n (pc := 38) C dX6_digest_38 1 rfl ?_
                refine jw_iload_n (pc := 39) C dX6_digest_39 2 rfl ?_
                refine jw_callRV (pc := 40) C [.int (jI ((e : Nat) : Int)), .int (jI ((((w : Nat) : Int))))] [.ref g] 2 (con_X6_houseNow lau D cI cB g co nh qk qv ns qh ql ch hd q9 q10 q11 q12 pl qp iw nw nz 0 sd qs ik kc ks kg kh k26 k27 k28 k29 k30 k31 k32 h1 K V SH SL e (((w : Nat) : Int)) (by omega) (by omega) hS hK hV (by omega) (by omega)) gX6_digest_X6_houseNow rfl rfl rfl (by decide +kernel) ⟨Nat.le_of_ble_eq_true rfl, Nat.le_of_ble_eq_true rfl⟩ 0 rfl rfl [0, 1, 2, 3, 4] rfl rfl (Nat.le_of_ble_eq_true rfl) rfl dX6_digest_40 ?_
                refine jw_top (y := jI (sp_hA K V (sp_sum SH SL (ns + 0)) e ((w : Nat) : Int))) (congrArg jI rfl) ?_
                refine jw_i2l (pc := 43) C ((jI (sp_hA K V (sp_sum SH SL (ns + 0)) e ((w : Nat) : Int))).toInt64) dX6_digest_43 rfl ?_
                refine jw_callWV (pc := 44) C [.long (((jI (sp_hA K V (sp_sum SH SL (ns + 0)) e ((w : Nat) : Int))).toInt64))] [] 1 (con_X6_mix lau D cI cB g co nh qk qv ns qh ql ch hd q9 q10 q11 q12 pl qp iw nw nz 0 sd qs ik kc ks kg kh k26 k27 k28 k29 k30 k31 k32 h1 ((jI (sp_hA K V (sp_sum SH SL (ns + 0)) e ((w : Nat) : Int))).toInt64) ) gX6_digest_X6_mix rfl rfl rfl (by decide +kernel) ⟨Nat.le_of_ble_eq_true rfl, Nat.le_of_ble_eq_true rfl⟩ 0 rfl rfl [0] [1, 2, 3, 4, 5, 6, 7, 8, 9] [9, 0, 1, 2, 3, 4, 5, 6, 7, 8] (wr := [aI cI qk 5 K, aI cI qv 5 V, aI cI qh 7 SH, aI cI ql 7 SL, aI cI q9 6 HH, aI cI q10 6 HO, aI cI q11 6 HL, aI cI q12 6 HW, aI cB qp 25 P]) rfl rfl (by decide) (by decide) (fun _ => rfl) (wN := fun u_44_34 => [oM g co ((nh : Nat) : Int) qk qv ((ns : Nat) : Int) qh ql ch ((hd : Nat) : Int) q9 q10 q11 q12 ((pl : Nat) : Int) qp iw nw nz ((0 : Nat) : Int) sd qs ik kc ((ks : Nat) : Int) kg ((kh : Nat) : Int) k26 k27 k28 k29 k30 k31 k32 (31 * h1 + ((jI (sp_hA K V (sp_sum SH SL (ns + 0)) e ((w : Nat) : Int))).toInt64)), aI cI qk 5 K, aI cI qv 5 V, aI cI qh 7 SH, aI cI ql 7 SL, aI cI q9 6 HH, aI cI q10 6 HO, aI cI q11 6 HL, aI cI q12 6 HW, aI cB qp 25 P]) (fun _ => rfl) (stN := fun u_44_34 => []) (fun _ => rfl) rfl (Nat.le_of_ble_eq_true rfl) rfl dX6_digest_44 (fun u_44_34 hu_44_34 => ?_)
                refine jw_iinc (pc := 47) (z := ((w + 1 : Nat) : Int)) (lv' := [(2, .int (jI ((w + 1 : Nat) : Int))), (0, .ref g), (1, .int (jI ((e : Nat) : Int)))]) C dX6_digest_47 2 rfl (by omega) (by decide) rfl ?_
                refine jw_goto (pc := 50) (tgt := 19) C dX6_digest_50 (by decide) ?_
                refine jw_lv [1, 2, 0] rfl ?_
                exact ih_33 (w + 1) (31 * h1 + ((jI (sp_hA K V (sp_sum SH SL (ns + 0)) e ((w : Nat) : Int))).toInt64)) (by omega) (by rw [hh1]; first | exact (sp_in_t (by omega)).symm | exact (sp_in_f (by omega)).symm) (by omega)
              · -- 27 f
                refine jw_iload_n (pc := 30) C dX6_digest_30 2 rfl ?_
                refine jw_bipush (pc := 31) C dX6_digest_31 (by decide +kernel) ?_
                refine jw_icmp_le (pc := 33) (tgt := 47) C dX6_digest_33 (by decide) (by omega) (by omega) (fun c_33 => ?_) (fun c_33 => ?_)
                · -- 33 t
                  refine jw_iinc (pc := 47) (z := ((w + 1 : Nat) : Int)) (lv' := [(2, .int (jI ((w + 1 : Nat) : Int))), (0, .ref g), (1, .int (jI ((e : Nat) : Int)))]) C dX6_digest_47 2 rfl (by omega) (by decide) rfl ?_
                  refine jw_goto (pc := 50) (tgt := 19) C dX6_digest_50 (by decide) ?_
                  refine jw_lv [1, 2, 0] rfl ?_
                  exact ih_33 (w + 1) h1 (by omega) (by rw [hh1]; first | exact (sp_in_t (by omega)).symm | exact (sp_in_f (by omega)).symm) (by omega)
                · -- 33 f
                  refine jw_aload_n (pc := 36) C dX6_digest_36 0 rfl ?_
                  refine jw_aload_n (pc := 37) C dX6_digest_37 0 rfl ?_
                  refine jw_iload_n (pc := 38) C dX6_digest_38 1 rfl ?_
                  refine jw_iload_n (pc := 39) C dX6_digest_39 2 rfl ?_
                  refine jw_callRV (pc := 40) C [.int (jI ((e : Nat) : Int)), .int (jI ((((w : Nat) : Int))))] [.ref g] 2 (con_X6_houseNow lau D cI cB g co nh qk qv ns qh ql ch hd q9 q10 q11 q12 pl qp iw nw nz 0 sd qs ik kc ks kg kh k26 k27 k28 k29 k30 k31 k32 h1 K V SH SL e (((w : Nat) : Int)) (by omega) (by omega) hS hK hV (by omega) (by omega)) gX6_digest_X6_houseNow rfl rfl rfl (by decide +kernel) ⟨Nat.le_of_ble_eq_true rfl, Nat.le_of_ble_eq_true rfl⟩ 0 rfl rfl [0, 1, 2, 3, 4] rfl rfl (Nat.le_of_ble_eq_true rfl) rfl dX6_digest_40 ?_
                  refine jw_top (y := jI (sp_hA K V (sp_sum SH SL (ns + 0)) e ((w : Nat) : Int))) (congrArg jI rfl) ?_
                  refine jw_i2l (pc := 43) C ((jI (sp_hA K V (sp_sum SH SL (ns + 0)) e ((w : Nat) : Int))).toInt64) dX6_digest_43 rfl ?_
                  refine jw_callWV (pc := 44) C [.long (((jI (sp_hA K V (sp_sum SH SL (ns + 0)) e ((w : Nat) : Int))).toInt64))] [] 1 (con_X6_mix lau D cI cB g co nh qk qv ns qh ql ch hd q9 q10 q11 q12 pl qp iw nw nz 0 sd qs ik kc ks kg kh k26 k27 k28 k29 k30 k31 k32 h1 ((jI (sp_hA K V (sp_sum SH SL (ns + 0)) e ((w : Nat) : Int))).toInt64) ) gX6_digest_X6_mix rfl rfl rfl (by decide +kernel) ⟨Nat.le_of_ble_eq_true rfl, Nat.le_of_ble_eq_true rfl⟩ 0 rfl rfl [0] [1, 2, 3, 4, 5, 6, 7, 8, 9] [9, 0, 1, 2, 3, 4, 5, 6, 7, 8] (wr := [aI cI qk 5 K, aI cI qv 5 V, aI cI qh 7 SH, aI cI ql 7 SL, aI cI q9 6 HH, aI cI q10 6 HO, aI cI q11 6 HL, aI cI q12 6 HW, aI cB qp 25 P]) rfl rfl (by decide) (by decide) (fun _ => rfl) (wN := fun u_44_35 => [oM g co ((nh : Nat) : Int) qk qv ((ns : Nat) : Int) qh ql ch ((hd : Nat) : Int) q9 q10 q11 q12 ((pl : Nat) : Int) qp iw nw nz ((0 : Nat) : Int) sd qs ik kc ((ks : Nat) : Int) kg ((kh : Nat) : Int) k26 k27 k28 k29 k30 k31 k32 (31 * h1 + ((jI (sp_hA K V (sp_sum SH SL (ns + 0)) e ((w : Nat) : Int))).toInt64)), aI cI qk 5 K, aI cI qv 5 V, aI cI qh 7 SH, aI cI ql 7 SL, aI cI q9 6 HH, aI cI q10 6 HO, aI cI q11 6 HL, aI cI q12 6 HW, aI cB qp 25 P]) (fun _ => rfl) (stN := fun u_44_35 => []) (fun _ => rfl) rfl (Nat.le_of_ble_eq_true rfl) rfl dX6_digest_44 (fun u_44_35 hu_44_35 => ?_)
                  refine jw_iinc (pc := 47) (z := ((w + 1 : Nat) : Int)) (lv' := [(2, .int (jI ((w + 1 : Nat) : Int))), (0, .ref g), (1, .int (jI ((e : Nat) : Int)))]) C dX6_digest_47 2 rfl (by omega) (by decide) rfl ?_
                  refine jw_goto (pc := 50) (tgt := 19) C dX6_digest_50 (by decide) ?_
                  refine jw_lv [1, 2, 0] rfl ?_
                  exact ih_33 (w + 1) (31 * h1 + ((jI (sp_hA K V (sp_sum SH SL (ns + 0)) e ((w : Nat) : Int))).toInt64)) (by omega) (by rw [hh1]; first | exact (sp_in_t (by omega)).symm | exact (sp_in_f (by omega)).symm) (by omega)
        refine jw_lv [1, 2, 0] rfl ?_
        exact lp_19_32 ((22 - 0) + 1) 0 hv (by omega) rfl (Nat.lt_succ_self _)
  refine jw_lv [1, 0] rfl ?_
  exact lp_9_1 ((nh - 0) + 1) 0 1091 (by omega) rfl (Nat.lt_succ_self _)
