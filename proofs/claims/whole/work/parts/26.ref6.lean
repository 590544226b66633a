def rmX6_fault : Room := { frames := 3, cells := 0, slots := 0, locals := 65 }
set_option maxHeartbeats 4000000 in
set_option maxRecDepth 100000 in
theorem con_X6_fault (lau : Launch) (D : va_G) (cI cB : ClassId) (g : Nat) (co : Int) (nh : Nat) (qk : Nat) (qv : Nat) (ns : Nat) (qh : Nat) (ql : Nat) (ch : Int) (hd : Nat) (q9 : Nat) (q10 : Nat) (q11 : Nat) (q12 : Nat) (pl : Nat) (qp : Nat) (th : Nat) (sd : Int64) (qs : Nat) (ik : Int) (kc : Int) (ks : Nat) (kg : Int) (kh : Nat) (k26 : Nat) (k27 : Nat) (k28 : Nat) (k29 : Nat) (k30 : Nat) (k31 : Nat) (k32 : Nat) (hx : Int64) (iw : Int) (nw : Int) (nz : Int) (P : Nat → Int) (hpl : pl ≤ 25) (hP : ∀ k, k < pl → 32 ≤ P k ∧ P k ≤ 126) : jMW (S := Int × Int) lau yX6_fault wsX6_fault rmX6_fault D cI cB [.ref g] [oM g co ((nh : Nat) : Int) qk qv ((ns : Nat) : Int) qh ql ch ((hd : Nat) : Int) q9 q10 q11 q12 ((pl : Nat) : Int) qp iw nw nz ((th : Nat) : Int) sd qs ik kc ((ks : Nat) : Int) kg ((kh : Nat) : Int) k26 k27 k28 k29 k30 k31 k32 hx, aI cB qp 25 P] (fun u => some (.int (jI ((sp_fault P pl : Nat) : Int)))) (fun u => True) (fun u => [oM g co ((nh : Nat) : Int) qk qv ((ns : Nat) : Int) qh ql ch ((hd : Nat) : Int) q9 q10 q11 q12 ((pl : Nat) : Int) qp (jb (sp_whole P pl = true)) u.1 u.2 ((th : Nat) : Int) sd qs ik kc ((ks : Nat) : Int) kg ((kh : Nat) : Int) k26 k27 k28 k29 k30 k31 k32 hx, aI cB qp 25 P]) := by
  refine jMW.of (own := RX6) (cc := cX6_fault) (maxL := 1) (ret := (some .int)) rfl (by decide) rfl (Nat.le_of_ble_eq_true rfl) ?_
  intro X C E
  refine jw_lv (lv' := [(0, .ref g)]) [0] rfl ?_
  refine jw_aload_n (pc := 0) C dX6_fault_0 0 rfl ?_
  refine jw_callWV (pc := 1) C [] [] 0 (con_X6_read lau D cI cB g co nh qk qv ns qh ql ch hd q9 q10 q11 q12 pl qp th sd qs ik kc ks kg kh k26 k27 k28 k29 k30 k31 k32 hx iw nw nz P (by omega) hP) gX6_fault_X6_read rfl rfl rfl (by decide +kernel) ⟨Nat.le_of_ble_eq_true rfl, Nat.le_of_ble_eq_true rfl⟩ 0 rfl rfl [0, 1] [] [0, 1] (wr := []) rfl rfl (by decide) (by decide) (fun _ => rfl) (wN := fun u_1_1 => [oM g co ((nh : Nat) : Int) qk qv ((ns : Nat) : Int) qh ql ch ((hd : Nat) : Int) q9 q10 q11 q12 ((pl : Nat) : Int) qp (jb (sp_whole P pl = true)) u_1_1.1 u_1_1.2 ((th : Nat) : Int) sd qs ik kc ((ks : Nat) : Int) kg ((kh : Nat) : Int) k26 k27 k28 k29 k30 k31 k32 hx, aI cB qp 25 P]) (fun _ => rfl) (stN := fun u_1_1 => [.int (jI ((sp_fault P pl : Nat) : Int))]) (fun _ => rfl) rfl (Nat.le_of_ble_eq_true rfl) rfl dX6_fault_1 (fun u_1_1 hu_1_1 => ?_)
  (try dsimp only at hu_1_1)
  exact jw_iretW (pc := 4) C E dX6_fault_4 ((u_1_1.1, u_1_1.2)) rfl trivial rfl
theorem fl_X6_colony_7 : Cond.fieldLink RX6 7 "GongTideModel" "kindOf" "[I" ∈ wsX6_colony := by decide +kernel
theorem fl_X6_colony_13 : Cond.fieldLink RX6 13 "GongTideModel" "levelOf" "[I" ∈ wsX6_colony := by decide +kernel
theorem fl_X6_colony_16 : Cond.fieldLink RX6 16 "GongTideModel" "hourOf" "[I" ∈ wsX6_colony := by decide +kernel
theorem fl_X6_colony_19 : Cond.fieldLink RX6 19 "GongTideModel" "loudOf" "[I" ∈ wsX6_colony := by decide +kernel
theorem fl_X6_colony_34 : Cond.fieldLink RX6 34 "GongTideModel" "page" "[B" ∈ wsX6_colony := by decide +kernel
theorem fl_X6_colony_66 : Cond.fieldLink RX6 66 "GongTideModel" "pageLength" "I" ∈ wsX6_colony := by decide +kernel
theorem fl_X6_colony_70 : Cond.fieldLink RX6 70 "GongTideModel" "newStrokes" "I" ∈ wsX6_colony := by decide +kernel
theorem fl_X6_colony_73 : Cond.fieldLink RX6 73 "GongTideModel" "isWhole" "Z" ∈ wsX6_colony := by decide +kernel
theorem fl_X6_colony_81 : Cond.fieldLink RX6 81 "GongTideModel" "newHouses" "I" ∈ wsX6_colony := by decide +kernel
theorem fl_X6_colony_94 : Cond.fieldLink RX6 94 "GongTideModel" "houses" "I" ∈ wsX6_colony := by decide +kernel
theorem fl_X6_colony_97 : Cond.fieldLink RX6 97 "GongTideModel" "strokes" "I" ∈ wsX6_colony := by decide +kernel
theorem fl_X6_colony_100 : Cond.fieldLink RX6 100 "GongTideModel" "colonies" "I" ∈ wsX6_colony := by decide +kernel
theorem fl_X6_colony_103 : Cond.fieldLink RX6 103 "GongTideModel" "changes" "I" ∈ wsX6_colony := by decide +kernel
theorem fl_X6_colony_106 : Cond.fieldLink RX6 106 "GongTideModel" "heard" "I" ∈ wsX6_colony := by decide +kernel
theorem hi_X6_colony_X6 : ∀ w ∈ wsX60, w ∈ wsX6_colony := fun w h => List.mem_cons_of_mem _ (List.mem_append_right _ h)
def rmX6_colony : Room := { frames := 3, cells := 0, slots := 0, locals := 65 }
set_option maxHeartbeats 4000000 in
set_option maxRecDepth 100000 in
theorem con_X6_colony (lau : Launch) (D : va_G) (cI cB : ClassId) (g : Nat) (co : Int) (nh : Nat) (qk : Nat) (qv : Nat) (ns : Nat) (qh : Nat) (ql : Nat) (ch : Int) (hd : Nat) (q9 : Nat) (q10 : Nat) (q11 : Nat) (q12 : Nat) (pl : Nat) (qp : Nat) (iw : Int) (nw : Int) (nz : Int) (sd : Int64) (qs : Nat) (ik : Int) (kc : Int) (ks : Nat) (kg : Int) (kh : Nat) (k26 : Nat) (k27 : Nat) (k28 : Nat) (k29 : Nat) (k30 : Nat) (k31 : Nat) (k32 : Nat) (hx : Int64) (K : Nat → Int) (V : Nat → Int) (SH : Nat → Int) (SL : Nat → Int) (P : Nat → Int) (hpl : pl ≤ 25) (hP : ∀ k, k < pl → 32 ≤ P k ∧ P k ≤ 126) (hwh : sp_whole P pl = true) : jMW (S := Unit) lau yX6_colony wsX6_colony rmX6_colony D cI cB [.ref g] [oM g co ((nh : Nat) : Int) qk qv ((ns : Nat) : Int) qh ql ch ((hd : Nat) : Int) q9 q10 q11 q12 ((pl : Nat) : Int) qp iw nw nz ((0 : Nat) : Int) sd qs ik kc ((ks : Nat) : Int) kg ((kh : Nat) : Int) k26 k27 k28 k29 k30 k31 k32 hx, aI cI qk 5 K, aI cI qv 5 V, aI cI qh 7 SH, aI cI ql 7 SL, aI cB qp 25 P] (fun u => some (.int (jI ((sp_hn P pl : Nat) : Int)))) (fun u => True) (fun u => [oM g (co + 1) ((sp_hn P pl : Nat) : Int) qk qv ((sp_sn P pl : Nat) : Int) qh ql 0 ((0 : Nat) : Int) q9 q10 q11 q12 ((0 : Nat) : Int) qp (jb (sp_whole P pl = true)) (((sp_hn P pl : Nat) : Int)) (((sp_sn P pl : Nat) : Int)) ((0 : Nat) : Int) sd qs ik kc ((ks : Nat) : Int) kg ((kh : Nat) : Int) k26 k27 k28 k29 k30 k31 k32 hx, aI cI qk 5 (sp_nk K P (sp_hn P pl)), aI cI qv 5 (sp_nv V P (sp_hn P pl)), aI cI qh 7 (sp_nsh SH P (sp_hn P pl) (sp_sn P pl)), aI cI ql 7 (sp_nsl SL P (sp_hn P pl) (sp_sn P pl)), aI cB qp 25 P]) := by
  refine jMW.of (own := RX6) (cc := cX6_colony) (maxL := 2) (ret := (some .int)) rfl (by decide) rfl (Nat.le_of_ble_eq_true rfl) ?_
  intro X C E
  refine jw_lv (lv' := [(0, .ref g)]) [0] rfl ?_
  obtain ⟨w1, w2, w3, w4, w5, w6, w7, w8⟩ := sp_whole_facts hpl hwh
  refine jw_aload_n (pc := 0) C dX6_colony_0 0 rfl ?_
  refine jw_callWV (pc := 1) C [] [] 0 (con_X6_read lau D cI cB g co nh qk qv ns qh ql ch hd q9 q10 q11 q12 pl qp 0 sd qs ik kc ks kg kh k26 k27 k28 k29 k30 k31 k32 hx iw nw nz P (by omega) hP) gX6_colony_X6_read rfl rfl rfl (by decide +kernel) ⟨Nat.le_of_ble_eq_true rfl, Nat.le_of_ble_eq_true rfl⟩ 0 rfl rfl [0, 5] [1, 2, 3, 4] [4, 0, 1, 2, 3, 5] (wr := [aI cI qk 5 K, aI cI qv 5 V, aI cI qh 7 SH, aI cI ql 7 SL]) rfl rfl (by decide) (by decide) (fun _ => rfl) (wN := fun u_1_1 => [oM g co ((nh : Nat) : Int) qk qv ((ns : Nat) : Int) qh ql ch ((hd : Nat) : Int) q9 q10 q11 q12 ((pl : Nat) : Int) qp (jb (sp_whole P pl = true)) u_1_1.1 u_1_1.2 ((0 : Nat) : Int) sd qs ik kc ((ks : Nat) : Int) kg ((kh : Nat) : Int) k26 k27 k28 k29 k30 k31 k32 hx, aI cI qk 5 K, aI cI qv 5 V, aI cI qh 7 SH, aI cI ql 7 SL, aI cB qp 25 P]) (fun _ => rfl) (stN := fun u_1_1 => [.int (jI ((sp_fault P pl : Nat) : Int))]) (fun _ => rfl) rfl (Nat.le_of_ble_eq_true rfl) rfl dX6_colony_1 (fun u_1_1 hu_1_1 => ?_)
  (try dsimp only at hu_1_1)
  have hpost := hu_1_1
  refine jw_pop (pc := 4) C dX6_colony_4 rfl ?_
  refine jw_aload_n (pc := 5) C dX6_colony_5 0 rfl ?_
  refine jw_get (pc := 6) C hi_X6_colony_X6 0 rfl rfl 15 (by decide) fl_X6_colony_73 rfl rfl dX6_colony_6 ?_
  refine jw_ifb_ne (pc := 9) (tgt := 15) C dX6_colony_9 (by decide) (fun c_9 => ?_) (fun c_9 => ?_)
  · -- 9 t
    rw [show u_1_1.1 = ((sp_hn P pl : Nat) : Int) from (hpost hwh).1, show u_1_1.2 = ((sp_sn P pl : Nat) : Int) from (hpost hwh).2]
    refine jw_aload_n (pc := 15) C dX6_colony_15 0 rfl ?_
    refine jw_aload_n (pc := 16) C dX6_colony_16 0 rfl ?_
    refine jw_get (pc := 17) C hi_X6_colony_X6 0 rfl rfl 16 (by decide) fl_X6_colony_81 rfl rfl dX6_colony_17 ?_
    refine jw_put (pc := 20) (ty := .int) (ws' := [oM g co ((sp_hn P pl : Nat) : Int) qk qv ((ns : Nat) : Int) qh ql ch ((hd : Nat) : Int) q9 q10 q11 q12 ((pl : Nat) : Int) qp (jb (sp_whole P pl = true)) ((sp_hn P pl : Nat) : Int) ((sp_sn P pl : Nat) : Int) ((0 : Nat) : Int) sd qs ik kc ((ks : Nat) : Int) kg ((kh : Nat) : Int) k26 k27 k28 k29 k30 k31 k32 hx, aI cI qk 5 K, aI cI qv 5 V, aI cI qh 7 SH, aI cI ql 7 SL, aI cB qp 25 P]) C hi_X6_colony_X6 tyX6 tyX6_ok nmX6 0 rfl rfl 1 (by decide) fl_X6_colony_94 rfl rfl (by decide +kernel) rfl rfl (Nat.le_of_ble_eq_true rfl) rfl dX6_colony_20 ?_
    refine jw_aload_n (pc := 23) C dX6_colony_23 0 rfl ?_
    refine jw_aload_n (pc := 24) C dX6_colony_24 0 rfl ?_
    refine jw_get (pc := 25) C hi_X6_colony_X6 0 rfl rfl 17 (by decide) fl_X6_colony_70 rfl rfl dX6_colony_25 ?_
    refine jw_put (pc := 28) (ty := .int) (ws' := [oM g co ((sp_hn P pl : Nat) : Int) qk qv ((sp_sn P pl : Nat) : Int) qh ql ch ((hd : Nat) : Int) q9 q10 q11 q12 ((pl : Nat) : Int) qp (jb (sp_whole P pl = true)) ((sp_hn P pl : Nat) : Int) ((sp_sn P pl : Nat) : Int) ((0 : Nat) : Int) sd qs ik kc ((ks : Nat) : Int) kg ((kh : Nat) : Int) k26 k27 k28 k29 k30 k31 k32 hx, aI cI qk 5 K, aI cI qv 5 V, aI cI qh 7 SH, aI cI ql 7 SL, aI cB qp 25 P]) C hi_X6_colony_X6 tyX6 tyX6_ok nmX6 0 rfl rfl 4 (by decide) fl_X6_colony_97 rfl rfl (by decide +kernel) rfl rfl (Nat.le_of_ble_eq_true rfl) rfl dX6_colony_28 ?_
    refine jw_arr (f := K) (g := sp_nk K P 0) (ws' := [oM g co ((sp_hn P pl : Nat) : Int) qk qv ((sp_sn P pl : Nat) : Int) qh ql ch ((hd : Nat) : Int) q9 q10 q11 q12 ((pl : Nat) : Int) qp (jb (sp_whole P pl = true)) ((sp_hn P pl : Nat) : Int) ((sp_sn P pl : Nat) : Int) ((0 : Nat) : Int) sd qs ik kc ((ks : Nat) : Int) kg ((kh : Nat) : Int) k26 k27 k28 k29 k30 k31 k32 hx, aI cI qk 5 (sp_nk K P 0), aI cI qv 5 V, aI cI qh 7 SH, aI cI ql 7 SL, aI cB qp 25 P]) 1 rfl (by exact fun j _ => sp_fill0 (S := K) (g := fun j => sp_kind (P (3 * j))) j) rfl ?_
    refine jw_arr (f := V) (g := sp_nv V P 0) (ws' := [oM g co ((sp_hn P pl : Nat) : Int) qk qv ((sp_sn P pl : Nat) : Int) qh ql ch ((hd : Nat) : Int) q9 q10 q11 q12 ((pl : Nat) : Int) qp (jb (sp_whole P pl = true)) ((sp_hn P pl : Nat) : Int) ((sp_sn P pl : Nat) : Int) ((0 : Nat) : Int) sd qs ik kc ((ks : Nat) : Int) kg ((kh : Nat) : Int) k26 k27 k28 k29 k30 k31 k32 hx, aI cI qk 5 (sp_nk K P 0), aI cI qv 5 (sp_nv V P 0), aI cI qh 7 SH, aI cI ql 7 SL, aI cB qp 25 P]) 2 rfl (by exact fun j _ => sp_fill0 (S := V) (g := fun j => P (3 * j + 1) - 48) j) rfl ?_
    refine jw_arr (f := SH) (g := sp_nsh SH P (sp_hn P pl) 0) (ws' := [oM g co ((sp_hn P pl : Nat) : Int) qk qv ((sp_sn P pl : Nat) : Int) qh ql ch ((hd : Nat) : Int) q9 q10 q11 q12 ((pl : Nat) : Int) qp (jb (sp_whole P pl = true)) ((sp_hn P pl : Nat) : Int) ((sp_sn P pl : Nat) : Int) ((0 : Nat) : Int) sd qs ik kc ((ks : Nat) : Int) kg ((kh : Nat) : Int) k26 k27 k28 k29 k30 k31 k32 hx, aI cI qk 5 (sp_nk K P 0), aI cI qv 5 (sp_nv V P 0), aI cI qh 7 (sp_nsh SH P (sp_hn P pl) 0), aI cI ql 7 SL, aI cB qp 25 P]) 3 rfl (by exact fun j _ => sp_fill0 (S := SH) (g := fun j => P (3 * (sp_hn P pl) + 2 * j) - 48) j) rfl ?_
    refine jw_arr (f := SL) (g := sp_nsl SL P (sp_hn P pl) 0) (ws' := [oM g co ((sp_hn P pl : Nat) : Int) qk qv ((sp_sn P pl : Nat) : Int) qh ql ch ((hd : Nat) : Int) q9 q10 q11 q12 ((pl : Nat) : Int) qp (jb (sp_whole P pl = true)) ((sp_hn P pl : Nat) : Int) ((sp_sn P pl : Nat) : Int) ((0 : Nat) : Int) sd qs ik kc ((ks : Nat) : Int) kg ((kh : Nat) : Int) k26 k27 k28 k29 k30 k31 k32 hx, aI cI qk 5 (sp_nk K P 0), aI cI qv 5 (sp_nv V P 0), aI cI qh 7 (sp_nsh SH P (sp_hn P pl) 0), aI cI ql 7 (sp_nsl SL P (sp_hn P pl) 0), aI cB qp 25 P]) 4 rfl (by exact fun j _ => sp_fill0 (S := SL) (g := fun j => P (3 * (sp_hn P pl) + 2 * j + 1) - 48) j) rfl ?_
    refine jw_iconst (pc := 31) C dX6_colony_31 ?_
    refine jw_istore_n (pc := 32) (lv' := [(1, .int (jI 0)), (0, .ref g)]) C dX6_colony_32 (by decide) rfl ?_
    have lp_33_2 : ∀ (fu : Nat) (x : Nat), (x ≤ sp_hn P pl) → sp_hn P pl - x < fu → jW X 33 [(0, .ref g), (1, .int (jI ((x : Nat) : Int)))] [] [oM g co ((sp_hn P pl : Nat) : Int) qk qv ((sp_sn P pl : Nat) : Int) qh ql ch ((hd : Nat) : Int) q9 q10 q11 q12 ((pl : Nat) : Int) qp (jb (sp_whole P pl = true)) ((sp_hn P pl : Nat) : Int) ((sp_sn P pl : Nat) : Int) ((0 : Nat) : Int) sd qs ik kc ((ks : Nat) : Int) kg ((kh : Nat) : Int) k26 k27 k28 k29 k30 k31 k32 hx, aI cI qk 5 (sp_nk K P x), aI cI qv 5 (sp_nv V P x), aI cI qh 7 (sp_nsh SH P (sp_hn P pl) 0), aI cI ql 7 (sp_nsl SL P (sp_hn P pl) 0), aI cB qp 25 P] := by
      intro fu
      induction fu with
      | zero => intro x hxn hm; exact absurd hm (Nat.not_lt_zero _)
      | succ fu ih_3 =>
        intro x hxn hm
        refine jw_iload_n (pc := 33) C dX6_colony_33 1 rfl ?_
        refine jw_aload_n (pc := 34) C dX6_colony_34 0 rfl ?_
        refine jw_get (pc := 35) C hi_X6_colony_X6 0 rfl rfl 1 (by decide) fl_X6_colony_94 rfl rfl dX6_colony_35 ?_
        refine jw_icmp_ge (pc := 38) (tgt := 83) C dX6_colony_38 (by decide) (by omega) (by omega) (fun c_38 => ?_) (fun c_38 => ?_)
        · -- 38 t
          rw [show x = sp_hn P pl by omega]
          refine jw_iconst (pc := 83) C dX6_colony_83 ?_
          refine jw_istore_n (pc := 84) (lv' := [(1, .int (jI 0)), (0, .ref g)]) C dX6_colony_84 (by decide) rfl ?_
          have lp_85_4 : ∀ (fu : Nat) (y : Nat), (y ≤ sp_sn P pl) → sp_sn P pl - y < fu → jW X 85 [(0, .ref g), (1, .int (jI ((y : Nat) : Int)))] [] [oM g co ((sp_hn P pl : Nat) : Int) qk qv ((sp_sn P pl : Nat) : Int) qh ql ch ((hd : Nat) : Int) q9 q10 q11 q12 ((pl : Nat) : Int) qp (jb (sp_whole P pl = true)) ((sp_hn P pl : Nat) : Int) ((sp_sn P pl : Nat) : Int) ((0 : Nat) : Int) sd qs ik kc ((ks : Nat) : Int) kg ((kh : Nat) : Int) k26 k27 k28 k29 k30 k31 k32 hx, aI cI qk 5 (sp_nk K P (sp_hn P pl)), aI cI qv 5 (sp_nv V P (sp_hn P pl)), aI cI qh 7 (sp_nsh SH P (sp_hn P pl) y), aI cI ql 7 (sp_nsl SL P (sp_hn P pl) y), aI cB qp 25 P] := by
            intro fu
            induction fu with
            | zero => intro y hy hm; exact absurd hm (Nat.not_lt_zero _)
            | succ fu ih_5 =>
              intro y hy hm
              refine jw_iload_n (pc := 85) C dX6_colony_85 1 rfl ?_
              refine jw_aload_n (pc := 86) C dX6_colony_86 0 rfl ?_
              refine jw_get (pc := 87) C hi_X6_colony_X6 0 rfl rfl 4 (by decide) fl_X6_colony_97 rfl rfl dX6_colony_87 ?_
              refine jw_icmp_ge (pc := 90) (tgt := 149) C dX6_colony_90 (by decide) (by omega) (by omega) (fun c_90 => ?_) (fun c_90 => ?_)
              · -- 90 t
                rw [show y = sp_sn P pl by omega]
                refine jw_aload_n (pc := 149) C dX6_colony_149 0 rfl ?_
                refine jw_dup (pc := 150) C dX6_colony_150 rfl ?_
                refine jw_get (pc := 151) C hi_X6_colony_X6 0 rfl rfl 0 (by decide) fl_X6_colony_100 rfl rfl dX6_colony_151 ?_
                refine jw_iconst (pc := 154) C dX6_colony_154 ?_
                refine jw_iadd (pc := 155) (z := (co + 1)) C dX6_colony_155 rfl ?_
                refine jw_put (pc := 156) (ty := .int) (ws' := [oM g (co + 1) ((sp_hn P pl : Nat) : Int) qk qv ((sp_sn P pl : Nat) : Int) qh ql ch ((hd : Nat) : Int) q9 q10 q11 q12 ((pl : Nat) : Int) qp (jb (sp_whole P pl = true)) ((sp_hn P pl : Nat) : Int) ((sp_sn P pl : Nat) : Int) ((0 : Nat) : Int) sd qs ik kc ((ks : Nat) : Int) kg ((kh : Nat) : Int) k26 k27 k28 k29 k30 k31 k32 hx, aI cI qk 5 (sp_nk K P (sp_hn P pl)), aI cI qv 5 (sp_nv V P (sp_hn P pl)), aI cI qh 7 (sp_nsh SH P (sp_hn P pl) (sp_sn P pl)), aI cI ql 7 (sp_nsl SL P (sp_hn P pl) (sp_sn P pl)), aI cB qp 25 P]) C hi_X6_colony_X6 tyX6 tyX6_ok nmX6 0 rfl rfl 0 (by decide) fl_X6_colony_100 rfl rfl (by decide +kernel) rfl rfl (Nat.le_of_ble_eq_true rfl) rfl dX6_colony_156 ?_
                refine jw_aload_n (pc := 159) C dX6_colony_159 0 rfl ?_
                refine jw_iconst (pc := 160) C dX6_colony_160 ?_
                refine jw_put (pc := 161) (ty := .int) (ws' := [oM g (co + 1) ((sp_hn P pl : Nat) : Int) qk qv ((sp_sn P pl : Nat) : Int) qh ql 0 ((hd : Nat) : Int) q9 q10 q11 q12 ((pl : Nat) : Int) qp (jb (sp_whole P pl = true)) ((sp_hn P pl : Nat) : Int) ((sp_sn P pl : Nat) : Int) ((0 : Nat) : Int) sd qs ik kc ((ks : Nat) : Int) kg ((kh : Nat) : Int) k26 k27 k28 k29 k30 k31 k32 hx, aI cI qk 5 (sp_nk K P (sp_hn P pl)), aI cI qv 5 (sp_nv V P (sp_hn P pl)), aI cI qh 7 (sp_nsh SH P (sp_hn P pl) (sp_sn P pl)), aI cI ql 7 (sp_nsl SL P (sp_hn P pl) (sp_sn P pl)), aI cB qp 25 P]) C hi_X6_colony_X6 tyX6 tyX6_ok nmX6 0 rfl rfl 7 (by decide) fl_X6_colony_103 rfl rfl (by decide +kernel) rfl rfl (Nat.le_of_ble_eq_true rfl) rfl dX6_colony_161 ?_
                refine jw_aload_n (pc := 164) C dX6_colony_164 0 rfl ?_
                refine jw_iconst (pc := 165) C dX6_colony_165 ?_
                refine jw_put (pc := 166) (ty := .int) (ws' := [oM g (co + 1) ((sp_hn P pl : Nat) : Int) qk qv ((sp_sn P pl : Nat) : Int) qh ql 0 0 q9 q10 q11 q12 ((pl : Nat) : Int) qp (jb (sp_whole P pl = true)) ((sp_hn P pl : Nat) : Int) ((sp_sn P pl : Nat) : Int) ((0 : Nat) : Int) sd qs ik kc ((ks : Nat) : Int) kg ((kh : Nat) : Int) k26 k27 k28 k29 k30 k31 k32 hx, aI cI qk 5 (sp_nk K P (sp_hn P pl)), aI cI qv 5 (sp_nv V P (sp_hn P pl)), aI cI qh 7 (sp_nsh SH P (sp_hn P pl) (sp_sn P pl)), aI cI ql 7 (sp_nsl SL P (sp_hn P pl) (sp_sn P pl)), aI cB qp 25 P]) C hi_X6_colony_X6 tyX6 tyX6_ok nmX6 0 rfl rfl 8 (by decide) fl_X6_colony_106 rfl rfl (by decide +kernel) rfl rfl (Nat.le_of_ble_eq_true rfl) rfl dX6_colony_166 ?_
                refine jw_aload_n (pc := 169) C dX6_colony_169 0 rfl ?_
                refine jw_iconst (pc := 170) C dX6_colony_170 ?_
                refine jw_put (pc := 171) (ty := .int) (ws' := [oM g (co + 1) ((sp_hn P pl : Nat) : Int) qk qv ((sp_sn P pl : Nat) : Int) qh ql 0 0 q9 q10 q11 q12 0 qp (jb (sp_whole P pl = true)) ((sp_hn P pl : Nat) : Int) ((sp_sn P pl : Nat) : Int) ((0 : Nat) : Int) sd qs ik kc ((ks : Nat) : Int) kg ((kh : Nat) : Int) k26 k27 k28 k29 k30 k31 k32 hx, aI cI qk 5 (sp_nk K P (sp_hn P pl)), aI cI qv 5 (sp_nv V P (sp_hn P pl)), aI cI qh 7 (sp_nsh SH P (sp_hn P pl) (sp_sn P pl)), aI cI ql 7 (sp_nsl SL P (sp_hn P pl) (sp_sn P pl)), aI cB qp 25 P]) C hi_X6_colony_X6 tyX6 tyX6_ok nmX6 0 rfl rfl 13 (by decide) fl_X6_colony_66 rfl rfl (by decide +kernel) rfl rfl (Nat.le_of_ble_eq_true rfl) rfl dX6_colony_171 ?_
                refine jw_aload_n (pc := 174) C dX6_colony_174 0 rfl ?_
                refine jw_get (pc := 175) C hi_X6_colony_X6 0 rfl rfl 1 (by decide) fl_X6_colony_94 rfl rfl dX6_colony_175 ?_
                exact jw_iretW (pc := 178) C E dX6_colony_178 (()) rfl trivial rfl
              · -- 90 f
                refine jw_aload_n (pc := 93) C dX6_colony_93 0 rfl ?_
                refine jw_get (pc := 94) C hi_X6_colony_X6 0 rfl rfl 5 (by decide) fl_X6_colony_16 rfl rfl dX6_colony_94 ?_
                refine jw_iload_n (pc := 97) C dX6_colony_97 1 rfl ?_
                refine jw_aload_n (pc := 98) C dX6_colony_98 0 rfl ?_
                refine jw_get (pc := 99) C hi_X6_colony_X6 0 rfl rfl 14 (by decide) fl_X6_colony_34 rfl rfl dX6_colony_99 ?_
                refine jw_iconst (pc := 102) C dX6_colony_102 ?_
                refine jw_aload_n (pc := 103) C dX6_colony_103 0 rfl ?_
                refine jw_get (pc := 104) C hi_X6_colony_X6 0 rfl rfl 1 (by decide) fl_X6_colony_94 rfl rfl dX6_colony_104 ?_
                refine jw_imul (pc := 107) (z := ((3 * (sp_hn P pl) : Nat) : Int)) C dX6_colony_107 (by omega) ?_
                refine jw_iconst (pc := 108) C dX6_colony_108 ?_
                refine jw_iload_n (pc := 109) C dX6_colony_109 1 rfl ?_
                refine jw_imul (pc := 110) (z := ((2 * y : Nat) : Int)) C dX6_colony_110 (by omega) ?_
                refine jw_iadd (pc := 111) (z := ((3 * (sp_hn P pl) + (2 * y) : Nat) : Int)) C dX6_colony_111 (by omega) ?_
                refine jw_bald (pc := 112) C (f := P) 5 (3 * (sp_hn P pl) + (2 * y)) rfl rfl (by omega) (by decide) dX6_colony_112 ?_
                have r_112 := hP (3 * (sp_hn P pl) + (2 * y)) (by omega)
                refine jw_bipush (pc := 113) C dX6_colony_113 (by decide +kernel) ?_
                refine jw_isub (pc := 115) (z := ((P (3 * (sp_hn P pl) + (2 * y))) - 48)) C dX6_colony_115 rfl ?_
                refine jw_iast (pc := 116) C (f := sp_nsh SH P (sp_hn P pl) y) 3 y rfl rfl (by omega) (by decide) (ws' := [oM g co ((sp_hn P pl : Nat) : Int) qk qv ((sp_sn P pl : Nat) : Int) qh ql ch ((hd : Nat) : Int) q9 q10 q11 q12 ((pl : Nat) : Int) qp (jb (sp_whole P pl = true)) ((sp_hn P pl : Nat) : Int) ((sp_sn P pl : Nat) : Int) ((0 : Nat) : Int) sd qs ik kc ((ks : Nat) : Int) kg ((kh : Nat) : Int) k26 k27 k28 k29 k30 k31 k32 hx, aI cI qk 5 (sp_nk K P (sp_hn P pl)), aI cI qv 5 (sp_nv V P (sp_hn P pl)), aI cI qh 7 (va_up (sp_nsh SH P (sp_hn P pl) y) y ((P (3 * (sp_hn P pl) + (2 * y))) - 48)), aI cI ql 7 (sp_nsl SL P (sp_hn P pl) y), aI cB qp 25 P]) rfl dX6_colony_116 ?_
                refine jw_aload_n (pc := 117) C dX6_colony_117 0 rfl ?_
                refine jw_get (pc := 118) C hi_X6_colony_X6 0 rfl rfl 6 (by decide) fl_X6_colony_19 rfl rfl dX6_colony_118 ?_
                refine jw_iload_n (pc := 121) C dX6_colony_121 1 rfl ?_
                refine jw_aload_n (pc := 122) C dX6_colony_122 0 rfl ?_
                refine jw_get (pc := 123) C hi_X6_colony_X6 0 rfl rfl 14 (by decide) fl_X6_colony_34 rfl rfl dX6_colony_123 ?_
                refine jw_iconst (pc := 126) C dX6_colony_126 ?_
                refine jw_aload_n (pc := 127) C dX6_colony_127 0 rfl ?_
                refine jw_get (pc := 128) C hi_X6_colony_X6 0 rfl rfl 1 (by decide) fl_X6_colony_94 rfl rfl dX6_colony_128 ?_
                refine jw_imul (pc := 131) (z := ((3 * (sp_hn P pl) : Nat) : Int)) C dX6_colony_131 (by omega) ?_
                refine jw_iconst (pc := 132) C dX6_colony_132 ?_
                refine jw_iload_n (pc := 133) C dX6_colony_133 1 rfl ?_
                refine jw_imul (pc := 134) (z := ((2 * y : Nat) : Int)) C dX6_colony_134 (by omega) ?_
                refine jw_iadd (pc := 135) (z := ((3 * (sp_hn P pl) + (2 * y) : Nat) : Int)) C dX6_colony_135 (by omega) ?_
                refine jw_iconst (pc := 136) C dX6_colony_136 ?_
                refine jw_iadd (pc := 137) (z := ((3 * (sp_hn P pl) + (2 * y) + 1 : Nat) : Int)) C dX6_colony_137 (by omega) ?_
                refine jw_bald (pc := 138) C (f := P) 5 (3 * (sp_hn P pl) + (2 * y) + 1) rfl rfl (by omega) (by decide) dX6_colony_138 ?_
                have r_138 := hP (3 * (sp_hn P pl) + (2 * y) + 1) (by omega)
                refine jw_bipush (pc := 139) C dX6_colony_139 (by decide +kernel) ?_
                refine jw_isub (pc := 141) (z := ((P (3 * (sp_hn P pl) + (2 * y) + 1)) - 48)) C dX6_colony_141 rfl ?_
                refine jw_iast (pc := 142) C (f := sp_nsl SL P (sp_hn P pl) y) 4 y rfl rfl (by omega) (by decide) (ws' := [oM g co ((sp_hn P pl : Nat) : Int) qk qv ((sp_sn P pl : Nat) : Int) qh ql ch ((hd : Nat) : Int) q9 q10 q11 q12 ((pl : Nat) : Int) qp (jb (sp_whole P pl = true)) ((sp_hn P pl : Nat) : Int) ((sp_sn P pl : Nat) : Int) ((0 : Nat) : Int) sd qs ik kc ((ks : Nat) : Int) kg ((kh : Nat) : Int) k26 k27 k28 k29 k30 k31 k32 hx, aI cI qk 5 (sp_nk K P (sp_hn P pl)), aI cI qv 5 (sp_nv V P (sp_hn P pl)), aI cI qh 7 (va_up (sp_nsh SH P (sp_hn P pl) y) y ((P (3 * (sp_hn P pl) + (2 * y))) - 48)), aI cI ql 7 (va_up (sp_nsl SL P (sp_hn P pl) y) y ((P (3 * (sp_hn P pl) + (2 * y) + 1)) - 48)), aI cB qp 25 P]) rfl dX6_colony_142 ?_
                refine jw_arr (f := va_up (sp_nsh SH P (sp_hn P pl) y) y ((P (3 * (sp_hn P pl) + (2 * y))) - 48)) (g := sp_nsh SH P (sp_hn P pl) (y + 1)) (ws' := [oM g co ((sp_hn P pl : Nat) : Int) qk qv ((sp_sn P pl : Nat) : Int) qh ql ch ((hd : Nat) : Int) q9 q10 q11 q12 ((pl : Nat) : Int) qp (jb (sp_whole P pl = true)) ((sp_hn P pl : Nat) : Int) ((sp_sn P pl : Nat) : Int) ((0 : Nat) : Int) sd qs ik kc ((ks : Nat) : Int) kg ((kh : Nat) : Int) k26 k27 k28 k29 k30 k31 k32 hx, aI cI qk 5 (sp_nk K P (sp_hn P pl)), aI cI qv 5 (sp_nv V P (sp_hn P pl)), aI cI qh 7 (sp_nsh SH P (sp_hn P pl) (y + 1)), aI cI ql 7 (va_up (sp_nsl SL P (sp_hn P pl) y) y ((P (3 * (sp_hn P pl) + (2 * y) + 1)) - 48)), aI cB qp 25 P]) 3 rfl (by exact fun j _ => sp_fill (S := SH) (g := fun j => P (3 * (sp_hn P pl) + 2 * j) - 48) rfl j) rfl ?_
                refine jw_arr (f := va_up (sp_nsl SL P (sp_hn P pl) y) y ((P (3 * (sp_hn P pl) + (2 * y) + 1)) - 48)) (g := sp_nsl SL P (sp_hn P pl) (y + 1)) (ws' := [oM g co ((sp_hn P pl : Nat) : Int) qk qv ((sp_sn P pl : Nat) : Int) qh ql ch ((hd : Nat) : Int) q9 q10 q11 q12 ((pl : Nat) : Int) qp (jb (sp_whole P pl = true)) ((sp_hn P pl : Nat) : Int) ((sp_sn P pl : Nat) : Int) ((0 : Nat) : Int) sd qs ik kc ((ks : Nat) : Int) kg ((kh : Nat) : Int) k26 k27 k28 k29 k30 k31 k32 hx, aI cI qk 5 (sp_nk K P (sp_hn P pl)), aI cI qv 5 (sp_nv V P (sp_hn P pl)), aI cI qh 7 (sp_nsh SH P (sp_hn P pl) (y + 1)), aI cI ql 7 (sp_nsl SL P (sp_hn P pl) (y + 1)), aI cB qp 25 P]) 4 rfl (by exact fun j _ => sp_fill (S := SL) (g := fun j => P (3 * (sp_hn P pl) + 2 * j + 1) - 48) rfl j) rfl ?_
                refine jw_iinc (pc := 143) (z := ((y + 1 : Nat) : Int)) (lv' := [(1, .int (jI ((y + 1 : Nat) : Int))), (0, .ref g)]) C dX6_colony_143 1 rfl (by omega) (by decide) rfl ?_
                refine jw_goto (pc := 146) (tgt := 85) C dX6_colony_146 (by decide) ?_
                refine jw_lv [1, 0] rfl ?_
                exact ih_5 (y + 1) (by omega) (by omega)
          refine jw_lv [1, 0] rfl ?_
          exact lp_85_4 ((sp_sn P pl - 0) + 1) 0 (by omega) (Nat.lt_succ_self _)
        · -- 38 f
          refine jw_aload_n (pc := 41) C dX6_colony_41 0 rfl ?_
          refine jw_get (pc := 42) C hi_X6_colony_X6 0 rfl rfl 2 (by decide) fl_X6_colony_7 rfl rfl dX6_colony_42 ?_
          refine jw_iload_n (pc := 45) C dX6_colony_45 1 rfl ?_
          refine jw_aload_n (pc := 46) C dX6_colony_46 0 rfl ?_
          refine jw_get (pc := 47) C hi_X6_colony_X6 0 rfl rfl 14 (by decide) fl_X6_colony_34 rfl rfl dX6_colony_47 ?_
          refine jw_iconst (pc := 50) C dX6_colony_50 ?_
          refine jw_iload_n (pc := 51) C dX6_colony_51 1 rfl ?_
          refine jw_imul (pc := 52) (z := ((3 * x : Nat) : Int)) C dX6_colony_52 (by omega) ?_
          refine jw_bald (pc := 53) C (f := P) 5 (3 * x) rfl rfl (by omega) (by decide) dX6_colony_53 ?_
          have r_53 := hP (3 * x) (by omega)
          refine jw_callRS (pc := 54) C [.int (jI (((P (3 * x)))))] [.int (jI ((x : Nat) : Int)), .ref qk] 1 (con_X6_kindBy lau D cI cB ((P (3 * x))) (by omega)) gX6_colony_X6_kindBy rfl rfl rfl (by decide +kernel) ⟨Nat.le_of_ble_eq_true rfl, Nat.le_of_ble_eq_true rfl⟩ [] rfl rfl (Nat.le_of_ble_eq_true rfl) rfl dX6_colony_54 ?_
          have b_54_0 := sp_kind_b ((P (3 * x)))
          refine jw_iast (pc := 57) C (f := sp_nk K P x) 1 x rfl rfl (by omega) (by decide) (ws' := [oM g co ((sp_hn P pl : Nat) : Int) qk qv ((sp_sn P pl : Nat) : Int) qh ql ch ((hd : Nat) : Int) q9 q10 q11 q12 ((pl : Nat) : Int) qp (jb (sp_whole P pl = true)) ((sp_hn P pl : Nat) : Int) ((sp_sn P pl : Nat) : Int) ((0 : Nat) : Int) sd qs ik kc ((ks : Nat) : Int) kg ((kh : Nat) : Int) k26 k27 k28 k29 k30 k31 k32 hx, aI cI qk 5 (va_up (sp_nk K P x) x (sp_kind ((P (3 * x))))), aI cI qv 5 (sp_nv V P x), aI cI qh 7 (sp_nsh SH P (sp_hn P pl) 0), aI cI ql 7 (sp_nsl SL P (sp_hn P pl) 0), aI cB qp 25 P]) rfl dX6_colony_57 ?_
          refine jw_aload_n (pc := 58) C dX6_colony_58 0 rfl ?_
          refine jw_get (pc := 59) C hi_X6_colony_X6 0 rfl rfl 3 (by decide) fl_X6_colony_13 rfl rfl dX6_colony_59 ?_
          refine jw_iload_n (pc := 62) C dX6_colony_62 1 rfl ?_
          refine jw_aload_n (pc := 63) C dX6_colony_63 0 rfl ?_
          refine jw_get (pc := 64) C hi_X6_colony_X6 0 rfl rfl 14 (by decide) fl_X6_colony_34 rfl rfl dX6_colony_64 ?_
          refine jw_iconst (pc := 67) C dX6_colony_67 ?_
          refine jw_iload_n (pc := 68) C dX6_colony_68 1 rfl ?_
          refine jw_imul (pc := 69) (z := ((3 * x : Nat) : Int)) C dX6_colony_69 (by omega) ?_
          refine jw_iconst (pc := 70) C dX6_colony_70 ?_
          refine jw_iadd (pc := 71) (z := ((3 * x + 1 : Nat) : Int)) C dX6_colony_71 (by omega) ?_
          refine jw_bald (pc := 72) C (f := P) 5 (3 * x + 1) rfl rfl (by omega) (by decide) dX6_colony_72 ?_
          have r_72 := hP (3 * x + 1) (by omega)
          refine jw_bipush (pc := 73) C dX6_colony_73 (by decide +kernel) ?_
          refine jw_isub (pc := 75) (z := ((P (3 * x + 1)) - 48)) C dX6_colony_75 rfl ?_
          refine jw_iast (pc := 76) C (f := sp_nv V P x) 2 x rfl rfl (by omega) (by decide) (ws' := [oM g co ((sp_hn P pl : Nat) : Int) qk qv ((sp_sn P pl : Nat) : Int) qh ql ch ((hd : Nat) : Int) q9 q10 q11 q12 ((pl : Nat) : Int) qp (jb (sp_whole P pl = true)) ((sp_hn P pl : Nat) : Int) ((sp_sn P pl : Nat) : Int) ((0 : Nat) : Int) sd qs ik kc ((ks : Nat) : Int) kg ((kh : Nat) : Int) k26 k27 k28 k29 k30 k31 k32 hx, aI cI qk 5 (va_up (sp_nk K P x) x (sp_kind ((P (3 * x))))), aI cI qv 5 (va_up (sp_nv V P x) x ((P (3 * x + 1)) - 48)), aI cI qh 7 (sp_nsh SH P (sp_hn P pl) 0), aI cI ql 7 (sp_nsl SL P (sp_hn P pl) 0), aI cB qp 25 P]) rfl dX6_colony_76 ?_
          refine jw_arr (f := va_up (sp_nk K P x) x (sp_kind ((P (3 * x))))) (g := sp_nk K P (x + 1)) (ws' := [oM g co ((sp_hn P pl : Nat) : Int) qk qv ((sp_sn P pl : Nat) : Int) qh ql ch ((hd : Nat) : Int) q9 q10 q11 q12 ((pl : Nat) : Int) qp (jb (sp_whole P pl = true)) ((sp_hn P pl : Nat) : Int) ((sp_sn P pl : Nat) : Int) ((0 : Nat) : Int) sd qs ik kc ((ks : Nat) : Int) kg ((kh : Nat) : Int) k26 k27 k28 k29 k30 k31 k32 hx, aI cI qk 5 (sp_nk K P (x + 1)), aI cI qv 5 (va_up (sp_nv V P x) x ((P (3 * x + 1)) - 48)), aI cI qh 7 (sp_nsh SH P (sp_hn P pl) 0), aI cI ql 7 (sp_nsl SL P (sp_hn P pl) 0), aI cB qp 25 P]) 1 rfl (by exact fun j _ => sp_fill (S := K) (g := fun j => sp_kind (P (3 * j))) rfl j) rfl ?_
          refine jw_arr (f := va_up (sp_nv V P x) x ((P (3 * x + 1)) - 48)) (g := sp_nv V P (x + 1)) (ws' := [oM g co ((sp_hn P pl : Nat) : Int) qk qv ((sp_sn P pl : Nat) : Int) qh ql ch ((hd : Nat) : Int) q9 q10 q11 q12 ((pl : Nat) : Int) qp (jb (sp_whole P pl = true)) ((sp_hn P pl : Nat) : Int) ((sp_sn P pl : Nat) : Int) ((0 : Nat) : Int) sd qs ik kc ((ks : Nat) : Int) kg ((kh : Nat) : Int) k26 k27 k28 k29 k30 k31 k32 hx, aI cI qk 5 (sp_nk K P (x + 1)), aI cI qv 5 (sp_nv V P (x + 1)), aI cI qh 7 (sp_nsh SH P (sp_hn P pl) 0), aI cI ql 7 (sp_nsl SL P (sp_hn P pl) 0), aI cB qp 25 P]) 2 rfl (by exact fun j _ => sp_fill (S := V) (g := fun j => P (3 * j + 1) - 48) rfl j) rfl ?_
          refine jw_iinc (pc := 77) (z := ((x + 1 : Nat) : Int)) (lv' := [(1, .int (jI ((x + 1 : Nat) : Int))), (0, .ref g)]) C dX6_colony_77 1 rfl (by omega) (by decide) rfl ?_
          refine jw_goto (pc := 80) (tgt := 33) C dX6_colony_80 (by decide) ?_
          refine jw_lv [1, 0] rfl ?_
          exact ih_3 (x + 1) (by omega) (by omega)
    refine jw_lv [1, 0] rfl ?_
    exact lp_33_2 ((sp_hn P pl - 0) + 1) 0 (by omega) (Nat.lt_succ_self _)
  · exact absurd hwh c_9
set_option maxHeartbeats 4000000 in
set_option maxRecDepth 100000 in
theorem con_X6_colonyF (lau : Launch) (D : va_G) (cI cB : ClassId) (g : Nat) (co : Int) (nh : Nat) (qk : Nat) (qv : Nat) (ns : Nat) (qh : Nat) (ql : Nat) (ch : Int) (hd : Nat) (q9 : Nat) (q10 : Nat) (q11 : Nat) (q12 : Nat) (pl : Nat) (qp : Nat) (th : Nat) (sd : Int64) (qs : Nat) (ik : Int) (kc : Int) (ks : Nat) (kg : Int) (kh : Nat) (k26 : Nat) (k27 : Nat) (k28 : Nat) (k29 : Nat) (k30 : Nat) (k31 : Nat) (k32 : Nat) (hx : Int64) (iw : Int) (nw : Int) (nz : Int) (P : Nat → Int) (hpl : pl ≤ 25) (hP : ∀ k, k < pl → 32 ≤ P k ∧ P k ≤ 126) (hwh : ¬ sp_whole P pl = true) : jMW (S := Int × Int) lau yX6_colony wsX6_colony rmX6_colony D cI cB [.ref g] [oM g co ((nh : Nat) : Int) qk qv ((ns : Nat) : Int) qh ql ch ((hd : Nat) : Int) q9 q10 q11 q12 ((pl : Nat) : Int) qp iw nw nz ((th : Nat) : Int) sd qs ik kc ((ks : Nat) : Int) kg ((kh : Nat) : Int) k26 k27 k28 k29 k30 k31 k32 hx, aI cB qp 25 P] (fun u => some (.int (jI (-103)))) (fun u => True) (fun u => [oM g co ((nh : Nat) : Int) qk qv ((ns : Nat) : Int) qh ql ch ((hd : Nat) : Int) q9 q10 q11 q12 ((pl : Nat) : Int) qp (jb (sp_whole P pl = true)) u.1 u.2 ((th : Nat) : Int) sd qs ik kc ((ks : Nat) : Int) kg ((kh : Nat) : Int) k26 k27 k28 k29 k30 k31 k32 hx, aI cB qp 25 P]) := by
  refine jMW.of (own := RX6) (cc := cX6_colony) (maxL := 2) (ret := (some .int)) rfl (by decide) rfl (Nat.le_of_ble_eq_true rfl) ?_
  intro X C E
  refine jw_lv (lv' := [(0, .ref g)]) [0] rfl ?_
  refine jw_aload_n (pc := 0) C dX6_colony_0 0 rfl ?_
  refine jw_callWV (pc := 1) C [] [] 0 (con_X6_read lau D cI cB g co nh qk qv ns qh ql ch hd q9 q10 q11 q12 pl qp th sd qs ik kc ks kg kh k26 k27 k28 k29 k30 k31 k32 hx iw nw nz P (by omega) hP) gX6_colony_X6_read rfl rfl rfl (by decide +kernel) ⟨Nat.le_of_ble_eq_true rfl, Nat.le_of_ble_eq_true rfl⟩ 0 rfl rfl [0, 1] [] [0, 1] (wr := []) rfl rfl (by decide) (by decide) (fun _ => rfl) (wN := fun u_1_1 => [oM g co ((nh : Nat) : Int) qk qv ((ns : Nat) : Int) qh ql ch ((hd : Nat) : Int) q9 q10 q11 q12 ((pl : Nat) : Int) qp (jb (sp_whole P pl = true)) u_1_1.1 u_1_1.2 ((th : Nat) : Int) sd qs ik kc ((ks : Nat) : Int) kg ((kh : Nat) : Int) k26 k27 k28 k29 k30 k31 k32 hx, aI cB qp 25 P]) (fun _ => rfl) (stN := fun u_1_1 => [.int (jI ((sp_fault P pl : Nat) : Int))]) (fun _ => rfl) rfl (Nat.le_of_ble_eq_true rfl) rfl dX6_colony_1 (fun u_1_1 hu_1_1 => ?_)
  (try dsimp only at hu_1_1)
  refine jw_pop (pc := 4) C dX6_colony_4 rfl ?_
  refine jw_aload_n (pc := 5) C dX6_colony_5 0 rfl ?_
  refine jw_get (pc := 6) C hi_X6_colony_X6 0 rfl rfl 15 (by decide) fl_X6_colony_73 rfl rfl dX6_colony_6 ?_
  refine jw_ifb_ne (pc := 9) (tgt := 15) C dX6_colony_9 (by decide) (fun c_9 => ?_) (fun c_9 => ?_)
  · exact absurd c_9 hwh
  · -- 9 f
    refine jw_bipush (pc := 12) C dX6_colony_12 (by decide +kernel) ?_
    exact jw_iretW (pc := 14) C E dX6_colony_14 ((u_1_1.1, u_1_1.2)) rfl trivial rfl
