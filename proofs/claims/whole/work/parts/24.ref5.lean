theorem fl_X6_weeksNow_16 : Cond.fieldLink RX6 16 "GongTideModel" "hourOf" "[I" ∈ wsX6_weeksNow := by decide +kernel
theorem fl_X6_weeksNow_38 : Cond.fieldLink RX6 38 "GongTideModel" "savedHour" "[I" ∈ wsX6_weeksNow := by decide +kernel
theorem fl_X6_weeksNow_97 : Cond.fieldLink RX6 97 "GongTideModel" "strokes" "I" ∈ wsX6_weeksNow := by decide +kernel
theorem fl_X6_weeksNow_186 : Cond.fieldLink RX6 186 "GongTideModel" "seedNow" "J" ∈ wsX6_weeksNow := by decide +kernel
theorem hi_X6_weeksNow_X6 : ∀ w ∈ wsX60, w ∈ wsX6_weeksNow := fun w h => List.mem_cons_of_mem _ (List.mem_append_right _ h)
def rmX6_weeksNow : Room := { frames := 6, cells := 0, slots := 0, locals := 139 }
set_option maxHeartbeats 4000000 in
set_option maxRecDepth 100000 in
theorem con_X6_weeksNow (lau : Launch) (D : va_G) (cI cB : ClassId) (g : Nat) (co : Int) (nh : Nat) (qk : Nat) (qv : Nat) (ns : Nat) (qh : Nat) (ql : Nat) (ch : Int) (hd : Nat) (q9 : Nat) (q10 : Nat) (q11 : Nat) (q12 : Nat) (pl : Nat) (qp : Nat) (iw : Int) (nw : Int) (nz : Int) (sd : Int64) (qs : Nat) (ik : Int) (kc : Int) (ks : Nat) (kg : Int) (kh : Nat) (k26 : Nat) (k27 : Nat) (k28 : Nat) (k29 : Nat) (k30 : Nat) (k31 : Nat) (k32 : Nat) (hx : Int64) (K : Nat → Int) (V : Nat → Int) (SH : Nat → Int) (SL : Nat → Int) (SV : Nat → Int) (dd : Nat) (s0 : Int) (w : Int) (hnh : nh ≤ 5) (hns : ns ≤ 6) (hS : ∀ x, x < ns → 0 ≤ SH x ∧ SH x ≤ 9 ∧ 0 ≤ SL x ∧ SL x ≤ 9) (hK : ∀ x, x < 5 → 0 ≤ K x ∧ K x ≤ 4) (hV : ∀ x, x < 5 → 0 ≤ V x ∧ V x ≤ 9) (hdd : 1 ≤ dd ∧ dd ≤ 30) (hs0 : 0 ≤ s0 ∧ s0 < 2147483648) (hw : 0 ≤ w ∧ w ≤ 2) : jMW (S := Unit) lau yX6_weeksNow wsX6_weeksNow rmX6_weeksNow D cI cB [.ref g, .int (jI ((dd : Nat) : Int)), .int (jI s0), .int (jI w)] [oM g co ((nh : Nat) : Int) qk qv ((ns : Nat) : Int) qh ql ch ((hd : Nat) : Int) q9 q10 q11 q12 ((pl : Nat) : Int) qp iw nw nz ((0 : Nat) : Int) sd qs ik kc ((ks : Nat) : Int) kg ((kh : Nat) : Int) k26 k27 k28 k29 k30 k31 k32 hx, aI cI qk 5 K, aI cI qv 5 V, aI cI qh 7 SH, aI cI ql 7 SL, aI cI qs 7 SV] (fun u => some (.int (jI (sp_weeksv K V nh SL ns dd s0 w)))) (fun u => True) (fun u => [oM g co ((nh : Nat) : Int) qk qv ((ns : Nat) : Int) qh ql ch ((hd : Nat) : Int) q9 q10 q11 q12 ((pl : Nat) : Int) qp iw nw nz ((0 : Nat) : Int) (jL (sp_wsd s0 ns dd)) qs ik kc ((ks : Nat) : Int) kg ((kh : Nat) : Int) k26 k27 k28 k29 k30 k31 k32 hx, aI cI qk 5 K, aI cI qv 5 V, aI cI qh 7 SH, aI cI ql 7 SL, aI cI qs 7 SH]) := by
  refine jMW.of (own := RX6) (cc := cX6_weeksNow) (maxL := 8) (ret := (some .int)) rfl (by decide) rfl (Nat.le_of_ble_eq_true rfl) ?_
  intro X C E
  refine jw_lv (lv' := [(0, .ref g), (1, .int (jI ((dd : Nat) : Int))), (2, .int (jI s0)), (3, .int (jI w))]) [0, 1, 2, 3] rfl ?_
  refine jw_iconst (pc := 0) C dX6_weeksNow_0 ?_
  refine jw_istore (pc := 1) (lv' := [(4, .int (jI 0)), (0, .ref g), (1, .int (jI ((dd : Nat) : Int))), (2, .int (jI s0)), (3, .int (jI w))]) C dX6_weeksNow_1 (by decide) rfl ?_
  have lp_3_1 : ∀ (fu : Nat) (k1 : Nat) (c1 : Nat → Int), (k1 ≤ 7) → (∀ y, y < k1 → c1 y = SH y) → 7 - k1 < fu → jW X 3 [(0, .ref g), (1, .int (jI ((dd : Nat) : Int))), (2, .int (jI s0)), (3, .int (jI w)), (4, .int (jI ((k1 : Nat) : Int)))] [] [oM g co ((nh : Nat) : Int) qk qv ((ns : Nat) : Int) qh ql ch ((hd : Nat) : Int) q9 q10 q11 q12 ((pl : Nat) : Int) qp iw nw nz ((0 : Nat) : Int) sd qs ik kc ((ks : Nat) : Int) kg ((kh : Nat) : Int) k26 k27 k28 k29 k30 k31 k32 hx, aI cI qk 5 K, aI cI qv 5 V, aI cI qh 7 SH, aI cI ql 7 SL, aI cI qs 7 c1] := by
    intro fu
    induction fu with
    | zero => intro k1 c1 hk1 hc1 hm; exact absurd hm (Nat.not_lt_zero _)
    | succ fu ih_2 =>
      intro k1 c1 hk1 hc1 hm
      refine jw_iload (pc := 3) C dX6_weeksNow_3 4 rfl ?_
      refine jw_bipush (pc := 5) C dX6_weeksNow_5 (by decide +kernel) ?_
      refine jw_icmp_ge (pc := 7) (tgt := 30) C dX6_weeksNow_7 (by decide) (by omega) (by omega) (fun c_7 => ?_) (fun c_7 => ?_)
      · -- 7 t
        refine jw_arr (f := c1) (g := SH) (ws' := [oM g co ((nh : Nat) : Int) qk qv ((ns : Nat) : Int) qh ql ch ((hd : Nat) : Int) q9 q10 q11 q12 ((pl : Nat) : Int) qp iw nw nz ((0 : Nat) : Int) sd qs ik kc ((ks : Nat) : Int) kg ((kh : Nat) : Int) k26 k27 k28 k29 k30 k31 k32 hx, aI cI qk 5 K, aI cI qv 5 V, aI cI qh 7 SH, aI cI ql 7 SL, aI cI qs 7 SH]) 5 rfl (by exact fun y hy => hc1 y (by omega)) rfl ?_
        refine jw_aload_n (pc := 30) C dX6_weeksNow_30 0 rfl ?_
        refine jw_iload_n (pc := 31) C dX6_weeksNow_31 2 rfl ?_
        refine jw_i2l (pc := 32) C (jL s0) dX6_weeksNow_32 (jL_i (by omega)) ?_
        refine jw_put (pc := 33) (ty := .long) (ws' := [oM g co ((nh : Nat) : Int) qk qv ((ns : Nat) : Int) qh ql ch ((hd : Nat) : Int) q9 q10 q11 q12 ((pl : Nat) : Int) qp iw nw nz ((0 : Nat) : Int) (jL s0) qs ik kc ((ks : Nat) : Int) kg ((kh : Nat) : Int) k26 k27 k28 k29 k30 k31 k32 hx, aI cI qk 5 K, aI cI qv 5 V, aI cI qh 7 SH, aI cI ql 7 SL, aI cI qs 7 SH]) C hi_X6_weeksNow_X6 tyX6 tyX6_ok nmX6 0 rfl rfl 19 (by decide) fl_X6_weeksNow_186 rfl rfl (by decide +kernel) rfl rfl (Nat.le_of_ble_eq_true rfl) rfl dX6_weeksNow_33 ?_
        refine jw_iconst (pc := 36) C dX6_weeksNow_36 ?_
        refine jw_istore (pc := 37) (lv' := [(4, .int (jI 0)), (0, .ref g), (1, .int (jI ((dd : Nat) : Int))), (2, .int (jI s0)), (3, .int (jI w))]) C dX6_weeksNow_37 (by decide) rfl ?_
        refine jw_iconst (pc := 39) C dX6_weeksNow_39 ?_
        refine jw_istore (pc := 40) (lv' := [(5, .int (jI 0)), (4, .int (jI 0)), (0, .ref g), (1, .int (jI ((dd : Nat) : Int))), (2, .int (jI s0)), (3, .int (jI w))]) C dX6_weeksNow_40 (by decide) rfl ?_
        refine jw_iconst (pc := 42) C dX6_weeksNow_42 ?_
        refine jw_istore (pc := 43) (lv' := [(6, .int (jI 0)), (5, .int (jI 0)), (4, .int (jI 0)), (0, .ref g), (1, .int (jI ((dd : Nat) : Int))), (2, .int (jI s0)), (3, .int (jI w))]) C dX6_weeksNow_43 (by decide) rfl ?_
        have lp_45_3 : ∀ (fu : Nat) (yy : Nat) (out : Nat) (hi : Int) (sx : Int) (c : Nat → Int), (yy ≤ dd) → (sx = sp_wsd s0 ns yy) → (out = sp_wout K V nh s0 SL ns yy) → (hi = sp_whi s0 SL ns yy) → dd - yy < fu → jW X 45 [(0, .ref g), (1, .int (jI ((dd : Nat) : Int))), (2, .int (jI s0)), (3, .int (jI w)), (4, .int (jI ((out : Nat) : Int))), (5, .int (jI hi)), (6, .int (jI ((yy : Nat) : Int)))] [] [oM g co ((nh : Nat) : Int) qk qv ((ns : Nat) : Int) qh ql ch ((hd : Nat) : Int) q9 q10 q11 q12 ((pl : Nat) : Int) qp iw nw nz ((0 : Nat) : Int) (jL sx) qs ik kc ((ks : Nat) : Int) kg ((kh : Nat) : Int) k26 k27 k28 k29 k30 k31 k32 hx, aI cI qk 5 K, aI cI qv 5 V, aI cI qh 7 c, aI cI ql 7 SL, aI cI qs 7 SH] := by
          intro fu
          induction fu with
          | zero => intro yy out hi sx c hyy hsx hout hhi hm; exact absurd hm (Nat.not_lt_zero _)
          | succ fu ih_4 =>
            intro yy out hi sx c hyy hsx hout hhi hm
            refine jw_iload (pc := 45) C dX6_weeksNow_45 6 rfl ?_
            refine jw_iload_n (pc := 47) C dX6_weeksNow_47 1 rfl ?_
            refine jw_icmp_ge (pc := 48) (tgt := 109) C dX6_weeksNow_48 (by decide) (by omega) (by omega) (fun c_48 => ?_) (fun c_48 => ?_)
            · -- 48 t
              rw [show yy = dd by omega] at hsx hout hhi
              refine jw_iconst (pc := 109) C dX6_weeksNow_109 ?_
              refine jw_istore (pc := 110) (lv' := [(6, .int (jI 0)), (0, .ref g), (1, .int (jI ((dd : Nat) : Int))), (2, .int (jI s0)), (3, .int (jI w)), (4, .int (jI ((out : Nat) : Int))), (5, .int (jI hi))]) C dX6_weeksNow_110 (by decide) rfl ?_
              have lp_112_5 : ∀ (fu : Nat) (k4 : Nat) (c4 : Nat → Int), (k4 ≤ 7) → (∀ y, y < k4 → c4 y = SH y) → 7 - k4 < fu → jW X 112 [(0, .ref g), (1, .int (jI ((dd : Nat) : Int))), (2, .int (jI s0)), (3, .int (jI w)), (4, .int (jI ((out : Nat) : Int))), (5, .int (jI hi)), (6, .int (jI ((k4 : Nat) : Int)))] [] [oM g co ((nh : Nat) : Int) qk qv ((ns : Nat) : Int) qh ql ch ((hd : Nat) : Int) q9 q10 q11 q12 ((pl : Nat) : Int) qp iw nw nz ((0 : Nat) : Int) (jL sx) qs ik kc ((ks : Nat) : Int) kg ((kh : Nat) : Int) k26 k27 k28 k29 k30 k31 k32 hx, aI cI qk 5 K, aI cI qv 5 V, aI cI qh 7 c4, aI cI ql 7 SL, aI cI qs 7 SH] := by
                intro fu
                induction fu with
                | zero => intro k4 c4 hk4 hc4 hm; exact absurd hm (Nat.not_lt_zero _)
                | succ fu ih_6 =>
                  intro k4 c4 hk4 hc4 hm
                  refine jw_iload (pc := 112) C dX6_weeksNow_112 6 rfl ?_
                  refine jw_bipush (pc := 114) C dX6_weeksNow_114 (by decide +kernel) ?_
                  refine jw_icmp_ge (pc := 116) (tgt := 139) C dX6_weeksNow_116 (by decide) (by omega) (by omega) (fun c_116 => ?_) (fun c_116 => ?_)
                  · -- 116 t
                    refine jw_arr (f := c4) (g := SH) (ws' := [oM g co ((nh : Nat) : Int) qk qv ((ns : Nat) : Int) qh ql ch ((hd : Nat) : Int) q9 q10 q11 q12 ((pl : Nat) : Int) qp iw nw nz ((0 : Nat) : Int) (jL sx) qs ik kc ((ks : Nat) : Int) kg ((kh : Nat) : Int) k26 k27 k28 k29 k30 k31 k32 hx, aI cI qk 5 K, aI cI qv 5 V, aI cI qh 7 SH, aI cI ql 7 SL, aI cI qs 7 SH]) 3 rfl (by exact fun y hy => hc4 y (by omega)) rfl ?_
                    refine jw_iload_n (pc := 139) C dX6_weeksNow_139 3 rfl ?_
                    refine jw_if_ne (pc := 140) (tgt := 148) C dX6_weeksNow_140 (by decide) (by omega) (fun c_140 => ?_) (fun c_140 => ?_)
                    · -- 140 t
                      refine jw_iload_n (pc := 148) C dX6_weeksNow_148 3 rfl ?_
                      refine jw_iconst (pc := 149) C dX6_weeksNow_149 ?_
                      refine jw_icmp_ne (pc := 150) (tgt := 158) C dX6_weeksNow_150 (by decide) (by omega) (by omega) (fun c_150 => ?_) (fun c_150 => ?_)
                      · -- 150 t
                        refine jw_aload_n (pc := 158) C dX6_weeksNow_158 0 rfl ?_
                        refine jw_get (pc := 159) C hi_X6_weeksNow_X6 0 rfl rfl 19 (by decide) fl_X6_weeksNow_186 rfl rfl dX6_weeksNow_159 ?_
                        refine jw_l2i (pc := 162) C (jI sx) dX6_weeksNow_162 (jL_32 _) ?_
                        exact jw_iretW (pc := 163) C E dX6_weeksNow_163 (()) (congrArg (fun z => some (Value.int (jI z))) (by unfold sp_weeksv; (repeat' split) <;> omega)) trivial (by rw [hsx])
                      · -- 150 f
                        refine jw_iload (pc := 153) C dX6_weeksNow_153 5 rfl ?_
                        refine jw_goto (pc := 155) (tgt := 163) C dX6_weeksNow_155 (by decide) ?_
                        exact jw_iretW (pc := 163) C E dX6_weeksNow_163 (()) (congrArg (fun z => some (Value.int (jI z))) (by unfold sp_weeksv; (repeat' split) <;> omega)) trivial (by rw [hsx])
                    · -- 140 f
                      refine jw_iload (pc := 143) C dX6_weeksNow_143 4 rfl ?_
                      refine jw_goto (pc := 145) (tgt := 163) C dX6_weeksNow_145 (by decide) ?_
                      exact jw_iretW (pc := 163) C E dX6_weeksNow_163 (()) (congrArg (fun z => some (Value.int (jI z))) (by unfold sp_weeksv; (repeat' split) <;> omega)) trivial (by rw [hsx])
                  · -- 116 f
                    refine jw_aload_n (pc := 119) C dX6_weeksNow_119 0 rfl ?_
                    refine jw_get (pc := 120) C hi_X6_weeksNow_X6 0 rfl rfl 5 (by decide) fl_X6_weeksNow_16 rfl rfl dX6_weeksNow_120 ?_
                    refine jw_iload (pc := 123) C dX6_weeksNow_123 6 rfl ?_
                    refine jw_aload_n (pc := 125) C dX6_weeksNow_125 0 rfl ?_
                    refine jw_get (pc := 126) C hi_X6_weeksNow_X6 0 rfl rfl 20 (by decide) fl_X6_weeksNow_38 rfl rfl dX6_weeksNow_126 ?_
                    refine jw_iload (pc := 129) C dX6_weeksNow_129 6 rfl ?_
                    refine jw_iald (pc := 131) C (f := SH) 5 k4 rfl rfl (by omega) (by decide) dX6_weeksNow_131 ?_
                    refine jw_iast (pc := 132) C (f := c4) 3 k4 rfl rfl (by omega) (by decide) (ws' := [oM g co ((nh : Nat) : Int) qk qv ((ns : Nat) : Int) qh ql ch ((hd : Nat) : Int) q9 q10 q11 q12 ((pl : Nat) : Int) qp iw nw nz ((0 : Nat) : Int) (jL sx) qs ik kc ((ks : Nat) : Int) kg ((kh : Nat) : Int) k26 k27 k28 k29 k30 k31 k32 hx, aI cI qk 5 K, aI cI qv 5 V, aI cI qh 7 (va_up c4 k4 (SH k4)), aI cI ql 7 SL, aI cI qs 7 SH]) rfl dX6_weeksNow_132 ?_
                    refine jw_iinc (pc := 133) (z := ((k4 + 1 : Nat) : Int)) (lv' := [(6, .int (jI ((k4 + 1 : Nat) : Int))), (0, .ref g), (1, .int (jI ((dd : Nat) : Int))), (2, .int (jI s0)), (3, .int (jI w)), (4, .int (jI ((out : Nat) : Int))), (5, .int (jI hi))]) C dX6_weeksNow_133 6 rfl (by omega) (by decide) rfl ?_
                    refine jw_goto (pc := 136) (tgt := 112) C dX6_weeksNow_136 (by decide) ?_
                    refine jw_lv [1, 2, 3, 4, 5, 6, 0] rfl ?_
                    exact ih_6 (k4 + 1) (va_up c4 k4 (SH k4)) (by omega) (sp_cpy_step (n := 7) rfl hc4) (by omega)
              refine jw_lv [1, 2, 3, 4, 5, 6, 0] rfl ?_
              exact lp_112_5 ((7 - 0) + 1) 0 c (by omega) (fun y hy => absurd hy (Nat.not_lt_zero _)) (Nat.lt_succ_self _)
            · -- 48 f
              have hsb : 0 ≤ sx ∧ sx < 2147483648 := by rw [hsx]; exact sp_wsd_b hs0 ns yy
              refine jw_iconst (pc := 51) C dX6_weeksNow_51 ?_
              refine jw_istore (pc := 52) (lv' := [(7, .int (jI 0)), (0, .ref g), (1, .int (jI ((dd : Nat) : Int))), (2, .int (jI s0)), (3, .int (jI w)), (4, .int (jI ((out : Nat) : Int))), (5, .int (jI hi)), (6, .int (jI ((yy : Nat) : Int)))]) C dX6_weeksNow_52 (by decide) rfl ?_
              have lp_54_7 : ∀ (fu : Nat) (k3 : Nat) (c3 : Nat → Int), (k3 ≤ ns) → (∀ y, y < k3 → c3 y = sp_dr sx y) → ns - k3 < fu → jW X 54 [(0, .ref g), (1, .int (jI ((dd : Nat) : Int))), (2, .int (jI s0)), (3, .int (jI w)), (4, .int (jI ((out : Nat) : Int))), (5, .int (jI hi)), (6, .int (jI ((yy : Nat) : Int))), (7, .int (jI ((k3 : Nat) : Int)))] [] [oM g co ((nh : Nat) : Int) qk qv ((ns : Nat) : Int) qh ql ch ((hd : Nat) : Int) q9 q10 q11 q12 ((pl : Nat) : Int) qp iw nw nz ((0 : Nat) : Int) (jL (sp_sd sx k3)) qs ik kc ((ks : Nat) : Int) kg ((kh : Nat) : Int) k26 k27 k28 k29 k30 k31 k32 hx, aI cI qk 5 K, aI cI qv 5 V, aI cI qh 7 c3, aI cI ql 7 SL, aI cI qs 7 SH] := by
                intro fu
                induction fu with
                | zero => intro k3 c3 hk3 hc3 hm; exact absurd hm (Nat.not_lt_zero _)
                | succ fu ih_8 =>
                  intro k3 c3 hk3 hc3 hm
                  refine jw_iload (pc := 54) C dX6_weeksNow_54 7 rfl ?_
                  refine jw_aload_n (pc := 56) C dX6_weeksNow_56 0 rfl ?_
                  refine jw_get (pc := 57) C hi_X6_weeksNow_X6 0 rfl rfl 4 (by decide) fl_X6_weeksNow_97 rfl rfl dX6_weeksNow_57 ?_
                  refine jw_icmp_ge (pc := 60) (tgt := 82) C dX6_weeksNow_60 (by decide) (by omega) (by omega) (fun c_60 => ?_) (fun c_60 => ?_)
                  · -- 60 t
                    have eR : sp_sum c3 SL (ns + 0) = sp_wR s0 SL ns yy := (sp_sum_congr (fun j hj => hc3 j (by omega)) (fun _ _ => rfl)).trans (by rw [hsx]; rfl)
                    have hS3 : ∀ x, x < ns → 0 ≤ c3 x ∧ c3 x ≤ 9 ∧ 0 ≤ SL x ∧ SL x ≤ 9 := fun x hxs => by rw [hc3 x (by omega)]; have := sp_dr_b sx x; have := hS x hxs; omega
                    refine jw_iload (pc := 82) C dX6_weeksNow_82 4 rfl ?_
                    refine jw_aload_n (pc := 84) C dX6_weeksNow_84 0 rfl ?_
                    refine jw_iconst (pc := 85) C dX6_weeksNow_85 ?_
                    refine jw_callRV (pc := 86) C [.int (jI 0)] [.int (jI ((out : Nat) : Int))] 1 (con_X6_hoursAll lau D cI cB g co nh qk qv ns qh ql ch hd q9 q10 q11 q12 pl qp iw nw nz 0 (jL (sp_sd sx k3)) qs ik kc ks kg kh k26 k27 k28 k29 k30 k31 k32 hx K V c3 SL 0 (by omega) (by omega) (by omega) hS3 hK hV (by omega)) gX6_weeksNow_X6_hoursAll rfl rfl rfl (by decide +kernel) ⟨Nat.le_of_ble_eq_true rfl, Nat.le_of_ble_eq_true rfl⟩ 0 rfl rfl [0, 1, 2, 3, 4] rfl rfl (Nat.le_of_ble_eq_true rfl) rfl dX6_weeksNow_86 ?_
                    have b_86_0 := sp_all_b K V (sp_sum c3 SL (ns + 0)) 0 nh
                    refine jw_top (y := jI ((sp_all K V (sp_wR s0 SL ns yy) 0 nh : Nat) : Int)) (congrArg jI (by rw [eR])) ?_
                    refine jw_iadd (pc := 89) (z := ((out + (sp_all K V (sp_wR s0 SL ns yy) 0 nh) : Nat) : Int)) C dX6_weeksNow_89 (by omega) ?_
                    refine jw_istore (pc := 90) (lv' := [(4, .int (jI ((out + (sp_all K V (sp_wR s0 SL ns yy) 0 nh) : Nat) : Int))), (0, .ref g), (1, .int (jI ((dd : Nat) : Int))), (2, .int (jI s0)), (3, .int (jI w)), (5, .int (jI hi)), (6, .int (jI ((yy : Nat) : Int))), (7, .int (jI ((k3 : Nat) : Int)))]) C dX6_weeksNow_90 (by decide) rfl ?_
                    refine jw_iload (pc := 92) C dX6_weeksNow_92 5 rfl ?_
                    refine jw_aload_n (pc := 94) C dX6_weeksNow_94 1 rfl ?_
                    refine jw_bipush (pc := 95) C dX6_weeksNow_95 (by decide +kernel) ?_
                    refine jw_callRV (pc := 97) C [.int (jI ((11 : Nat) : Int))] [.int (jI hi)] 1 (con_X6_tideAt lau D cI cB g co nh qk qv ns qh ql ch hd q9 q10 q11 q12 pl qp iw nw nz 0 (jL (sp_sd sx k3)) qs ik kc ks kg kh k26 k27 k28 k29 k30 k31 k32 hx c3 SL 11 (by omega) (by omega) hS3 (by omega)) gX6_weeksNow_X6_tideAt rfl rfl rfl (by decide +kernel) ⟨Nat.le_of_ble_eq_true rfl, Nat.le_of_ble_eq_true rfl⟩ 0 rfl rfl [0, 3, 4] rfl rfl (Nat.le_of_ble_eq_true rfl) rfl dX6_weeksNow_97 ?_
                    have b_97_0 := (show 0 ≤ sp_cap (sp_sum c3 SL (ns + 0) 11) ∧ sp_cap (sp_sum c3 SL (ns + 0) 11) ≤ 20 from sp_cap_b (sp_sum_b (ns + 0) (fun y hy => (hS3 y hy).2.2) 11).1)
                    refine jw_top (y := jI (sp_cap ((sp_wR s0 SL ns yy) 11))) (congrArg jI (by rw [eR])) ?_
                    refine jw_iadd (pc := 100) (z := (hi + (sp_cap ((sp_wR s0 SL ns yy) 11)))) C dX6_weeksNow_100 rfl ?_
                    refine jw_istore (pc := 101) (lv' := [(5, .int (jI (hi + (sp_cap ((sp_wR s0 SL ns yy) 11))))), (4, .int (jI ((out + (sp_all K V (sp_wR s0 SL ns yy) 0 nh) : Nat) : Int))), (0, .ref g), (1, .int (jI ((dd : Nat) : Int))), (2, .int (jI s0)), (3, .int (jI w)), (6, .int (jI ((yy : Nat) : Int))), (7, .int (jI ((k3 : Nat) : Int)))]) C dX6_weeksNow_101 (by decide) rfl ?_
                    refine jw_iinc (pc := 103) (z := ((yy + 1 : Nat) : Int)) (lv' := [(6, .int (jI ((yy + 1 : Nat) : Int))), (5, .int (jI (hi + (sp_cap ((sp_wR s0 SL ns yy) 11))))), (4, .int (jI ((out + (sp_all K V (sp_wR s0 SL ns yy) 0 nh) : Nat) : Int))), (0, .ref g), (1, .int (jI ((dd : Nat) : Int))), (2, .int (jI s0)), (3, .int (jI w)), (7, .int (jI ((k3 : Nat) : Int)))]) C dX6_weeksNow_103 6 rfl (by omega) (by decide) rfl ?_
                    refine jw_goto (pc := 106) (tgt := 45) C dX6_weeksNow_106 (by decide) ?_
                    refine jw_lv [3, 4, 5, 6, 2, 1, 0] rfl ?_
                    exact ih_4 (yy + 1) (out + (sp_all K V (sp_wR s0 SL ns yy) 0 nh)) ((hi + (sp_cap ((sp_wR s0 SL ns yy) 11)))) ((sp_sd sx k3)) c3 (by omega) (by rw [show k3 = ns by omega, hsx]; rfl) (by rw [hout]; rfl) (by rw [hhi]; rfl) (by omega)
                  · -- 60 f
                    have hsd := sp_sd_b hsb k3
                    refine jw_aload_n (pc := 63) C dX6_weeksNow_63 0 rfl ?_
                    refine jw_get (pc := 64) C hi_X6_weeksNow_X6 0 rfl rfl 5 (by decide) fl_X6_weeksNow_16 rfl rfl dX6_weeksNow_64 ?_
                    refine jw_iload (pc := 67) C dX6_weeksNow_67 7 rfl ?_
                    refine jw_aload_n (pc := 69) C dX6_weeksNow_69 0 rfl ?_
                    refine jw_bipush (pc := 70) C dX6_weeksNow_70 (by decide +kernel) ?_
                    refine jw_callWV (pc := 72) C [.int (jI 10)] [.int (jI ((k3 : Nat) : Int)), .ref qh] 1 (con_X6_draw lau D cI cB g co nh qk qv ns qh ql ch hd q9 q10 q11 q12 pl qp iw nw nz 0 qs ik kc ks kg kh k26 k27 k28 k29 k30 k31 k32 hx ((sp_sd sx k3)) (by omega)) gX6_weeksNow_X6_draw rfl rfl rfl (by decide +kernel) ⟨Nat.le_of_ble_eq_true rfl, Nat.le_of_ble_eq_true rfl⟩ 0 rfl rfl [0] [1, 2, 3, 4, 5] [5, 0, 1, 2, 3, 4] (wr := [aI cI qk 5 K, aI cI qv 5 V, aI cI qh 7 c3, aI cI ql 7 SL, aI cI qs 7 SH]) rfl rfl (by decide) (by decide) (fun _ => rfl) (wN := fun u_72_9 => [oM g co ((nh : Nat) : Int) qk qv ((ns : Nat) : Int) qh ql ch ((hd : Nat) : Int) q9 q10 q11 q12 ((pl : Nat) : Int) qp iw nw nz ((0 : Nat) : Int) (jL (sp_nx ((sp_sd sx k3)))) qs ik kc ((ks : Nat) : Int) kg ((kh : Nat) : Int) k26 k27 k28 k29 k30 k31 k32 hx, aI cI qk 5 K, aI cI qv 5 V, aI cI qh 7 c3, aI cI ql 7 SL, aI cI qs 7 SH]) (fun _ => rfl) (stN := fun u_72_9 => [.int (jI (sp_nx ((sp_sd sx k3)) / 65536 % 10)), .int (jI ((k3 : Nat) : Int)), .ref qh]) (fun _ => rfl) rfl (Nat.le_of_ble_eq_true rfl) rfl dX6_weeksNow_72 (fun u_72_9 hu_72_9 => ?_)
                    refine jw_iast (pc := 75) C (f := c3) 3 k3 rfl rfl (by omega) (by decide) (ws' := [oM g co ((nh : Nat) : Int) qk qv ((ns : Nat) : Int) qh ql ch ((hd : Nat) : Int) q9 q10 q11 q12 ((pl : Nat) : Int) qp iw nw nz ((0 : Nat) : Int) (jL (sp_nx ((sp_sd sx k3)))) qs ik kc ((ks : Nat) : Int) kg ((kh : Nat) : Int) k26 k27 k28 k29 k30 k31 k32 hx, aI cI qk 5 K, aI cI qv 5 V, aI cI qh 7 (va_up c3 k3 (sp_nx ((sp_sd sx k3)) / 65536 % 10)), aI cI ql 7 SL, aI cI qs 7 SH]) rfl dX6_weeksNow_75 ?_
                    refine jw_iinc (pc := 76) (z := ((k3 + 1 : Nat) : Int)) (lv' := [(7, .int (jI ((k3 + 1 : Nat) : Int))), (0, .ref g), (1, .int (jI ((dd : Nat) : Int))), (2, .int (jI s0)), (3, .int (jI w)), (4, .int (jI ((out : Nat) : Int))), (5, .int (jI hi)), (6, .int (jI ((yy : Nat) : Int)))]) C dX6_weeksNow_76 7 rfl (by omega) (by decide) rfl ?_
                    refine jw_goto (pc := 79) (tgt := 54) C dX6_weeksNow_79 (by decide) ?_
                    refine jw_lv [1, 2, 3, 4, 5, 6, 7, 0] rfl ?_
                    exact ih_8 (k3 + 1) (va_up c3 k3 (sp_nx ((sp_sd sx k3)) / 65536 % 10)) (by omega) (sp_cpy_step (n := 7) rfl hc3) (by omega)
              refine jw_lv [1, 2, 3, 4, 5, 6, 7, 0] rfl ?_
              exact lp_54_7 ((ns - 0) + 1) 0 c (by omega) (fun y hy => absurd hy (Nat.not_lt_zero _)) (Nat.lt_succ_self _)
        refine jw_lv [3, 4, 5, 6, 2, 1, 0] rfl ?_
        exact lp_45_3 ((dd - 0) + 1) 0 0 0 s0 SH (by omega) rfl rfl rfl (Nat.lt_succ_self _)
      · -- 7 f
        refine jw_aload_n (pc := 10) C dX6_weeksNow_10 0 rfl ?_
        refine jw_get (pc := 11) C hi_X6_weeksNow_X6 0 rfl rfl 20 (by decide) fl_X6_weeksNow_38 rfl rfl dX6_weeksNow_11 ?_
        refine jw_iload (pc := 14) C dX6_weeksNow_14 4 rfl ?_
        refine jw_aload_n (pc := 16) C dX6_weeksNow_16 0 rfl ?_
        refine jw_get (pc := 17) C hi_X6_weeksNow_X6 0 rfl rfl 5 (by decide) fl_X6_weeksNow_16 rfl rfl dX6_weeksNow_17 ?_
        refine jw_iload (pc := 20) C dX6_weeksNow_20 4 rfl ?_
        refine jw_iald (pc := 22) C (f := SH) 3 k1 rfl rfl (by omega) (by decide) dX6_weeksNow_22 ?_
        refine jw_iast (pc := 23) C (f := c1) 5 k1 rfl rfl (by omega) (by decide) (ws' := [oM g co ((nh : Nat) : Int) qk qv ((ns : Nat) : Int) qh ql ch ((hd : Nat) : Int) q9 q10 q11 q12 ((pl : Nat) : Int) qp iw nw nz ((0 : Nat) : Int) sd qs ik kc ((ks : Nat) : Int) kg ((kh : Nat) : Int) k26 k27 k28 k29 k30 k31 k32 hx, aI cI qk 5 K, aI cI qv 5 V, aI cI qh 7 SH, aI cI ql 7 SL, aI cI qs 7 (va_up c1 k1 (SH k1))]) rfl dX6_weeksNow_23 ?_
        refine jw_iinc (pc := 24) (z := ((k1 + 1 : Nat) : Int)) (lv' := [(4, .int (jI ((k1 + 1 : Nat) : Int))), (0, .ref g), (1, .int (jI ((dd : Nat) : Int))), (2, .int (jI s0)), (3, .int (jI w))]) C dX6_weeksNow_24 4 rfl (by omega) (by decide) rfl ?_
        refine jw_goto (pc := 27) (tgt := 3) C dX6_weeksNow_27 (by decide) ?_
        refine jw_lv [1, 2, 3, 4, 0] rfl ?_
        exact ih_2 (k1 + 1) (va_up c1 k1 (SH k1)) (by omega) (sp_cpy_step (n := 7) rfl hc1) (by omega)
  refine jw_lv [1, 2, 3, 4, 0] rfl ?_
  exact lp_3_1 ((7 - 0) + 1) 0 SV (by omega) (fun y hy => absurd hy (Nat.not_lt_zero _)) (Nat.lt_succ_self _)
theorem fl_X6_weeks_94 : Cond.fieldLink RX6 94 "GongTideModel" "houses" "I" ∈ wsX6_weeks := by decide +kernel
theorem hi_X6_weeks_X6 : ∀ w ∈ wsX60, w ∈ wsX6_weeks := fun w h => List.mem_cons_of_mem _ (List.mem_append_right _ h)
def rmX6_weeks : Room := { frames := 7, cells := 0, slots := 0, locals := 166 }
set_option maxHeartbeats 4000000 in
set_option maxRecDepth 100000 in
theorem con_X6_weeks (lau : Launch) (D : va_G) (cI cB : ClassId) (g : Nat) (co : Int) (nh : Nat) (qk : Nat) (qv : Nat) (ns : Nat) (qh : Nat) (ql : Nat) (ch : Int) (hd : Nat) (q9 : Nat) (q10 : Nat) (q11 : Nat) (q12 : Nat) (pl : Nat) (qp : Nat) (iw : Int) (nw : Int) (nz : Int) (sd : Int64) (qs : Nat) (ik : Int) (kc : Int) (ks : Nat) (kg : Int) (kh : Nat) (k26 : Nat) (k27 : Nat) (k28 : Nat) (k29 : Nat) (k30 : Nat) (k31 : Nat) (k32 : Nat) (hx : Int64) (K : Nat → Int) (V : Nat → Int) (SH : Nat → Int) (SL : Nat → Int) (SV : Nat → Int) (dd : Int) (s0 : Int) (w : Int) (hnh : nh ≤ 5) (hns : ns ≤ 6) (hS : ∀ x, x < ns → 0 ≤ SH x ∧ SH x ≤ 9 ∧ 0 ≤ SL x ∧ SL x ≤ 9) (hK : ∀ x, x < 5 → 0 ≤ K x ∧ K x ≤ 4) (hV : ∀ x, x < 5 → 0 ≤ V x ∧ V x ≤ 9) (hdd : -2147483648 ≤ dd ∧ dd < 2147483648) (hs0 : -2147483648 ≤ s0 ∧ s0 < 2147483648) (hw : -2147483648 ≤ w ∧ w < 2147483648) : jMW (S := (Nat → Int) × Int64) lau yX6_weeks wsX6_weeks rmX6_weeks D cI cB [.ref g, .int (jI dd), .int (jI s0), .int (jI w)] [oM g co ((nh : Nat) : Int) qk qv ((ns : Nat) : Int) qh ql ch ((hd : Nat) : Int) q9 q10 q11 q12 ((pl : Nat) : Int) qp iw nw nz ((0 : Nat) : Int) sd qs ik kc ((ks : Nat) : Int) kg ((kh : Nat) : Int) k26 k27 k28 k29 k30 k31 k32 hx, aI cI qk 5 K, aI cI qv 5 V, aI cI qh 7 SH, aI cI ql 7 SL, aI cI qs 7 SV] (fun u => some (.int (jI (sp_weeks nh K V SL ns dd s0 w)))) (fun u => True) (fun u => [oM g co ((nh : Nat) : Int) qk qv ((ns : Nat) : Int) qh ql ch ((hd : Nat) : Int) q9 q10 q11 q12 ((pl : Nat) : Int) qp iw nw nz ((0 : Nat) : Int) u.2 qs ik kc ((ks : Nat) : Int) kg ((kh : Nat) : Int) k26 k27 k28 k29 k30 k31 k32 hx, aI cI qk 5 K, aI cI qv 5 V, aI cI qh 7 SH, aI cI ql 7 SL, aI cI qs 7 u.1]) := by
  refine jMW.of (own := RX6) (cc := cX6_weeks) (maxL := 4) (ret := (some .int)) rfl (by decide) rfl (Nat.le_of_ble_eq_true rfl) ?_
  intro X C E
  refine jw_lv (lv' := [(0, .ref g), (1, .int (jI dd)), (2, .int (jI s0)), (3, .int (jI w))]) [0, 1, 2, 3] rfl ?_
  refine jw_iload_n (pc := 0) C dX6_weeks_0 1 rfl ?_
  refine jw_iconst (pc := 1) C dX6_weeks_1 ?_
  refine jw_bipush (pc := 2) C dX6_weeks_2 (by decide +kernel) ?_
  refine jw_callRS (pc := 4) C [.int (jI dd), .int (jI 1), .int (jI 30)] [] 3 (con_X6_within lau D cI cB dd 1 30 (by omega) (by omega) (by omega)) gX6_weeks_X6_within rfl rfl rfl (by decide +kernel) ⟨Nat.le_of_ble_eq_true rfl, Nat.le_of_ble_eq_true rfl⟩ [] rfl rfl (Nat.le_of_ble_eq_true rfl) rfl dX6_weeks_4 ?_
  refine jw_ifb_eq (pc := 7) (tgt := 23) C dX6_weeks_7 (by decide) (fun c_7 => ?_) (fun c_7 => ?_)
  · -- 7 t
    refine jw_bipush (pc := 23) C dX6_weeks_23 (by decide +kernel) ?_
    exact jw_iretW (pc := 25) C E dX6_weeks_25 (((SV), (sd))) (congrArg (fun z => some (Value.int (jI z))) (by unfold sp_weeks; (try simp only [Int.toNat_natCast]); first | (rw [if_neg (by omega)]; done) | (rw [if_pos (by omega), if_neg (by omega)]; done) | (rw [if_pos (by omega), if_pos (by omega)]; done))) trivial rfl
  · -- 7 f
    refine jw_iload_n (pc := 10) C dX6_weeks_10 2 rfl ?_
    refine jw_if_lt (pc := 11) (tgt := 23) C dX6_weeks_11 (by decide) (by omega) (fun c_11 => ?_) (fun c_11 => ?_)
    · -- 11 t
      refine jw_bipush (pc := 23) C dX6_weeks_23 (by decide +kernel) ?_
      exact jw_iretW (pc := 25) C E dX6_weeks_25 (((SV), (sd))) (congrArg (fun z => some (Value.int (jI z))) (by unfold sp_weeks; (try simp only [Int.toNat_natCast]); first | (rw [if_neg (by omega)]; done) | (rw [if_pos (by omega), if_neg (by omega)]; done) | (rw [if_pos (by omega), if_pos (by omega)]; done))) trivial rfl
    · -- 11 f
      refine jw_iload_n (pc := 14) C dX6_weeks_14 3 rfl ?_
      refine jw_iconst (pc := 15) C dX6_weeks_15 ?_
      refine jw_iconst (pc := 16) C dX6_weeks_16 ?_
      refine jw_callRS (pc := 17) C [.int (jI w), .int (jI 0), .int (jI 2)] [] 3 (con_X6_within lau D cI cB w 0 2 (by omega) (by omega) (by omega)) gX6_weeks_X6_within rfl rfl rfl (by decide +kernel) ⟨Nat.le_of_ble_eq_true rfl, Nat.le_of_ble_eq_true rfl⟩ [] rfl rfl (Nat.le_of_ble_eq_true rfl) rfl dX6_weeks_17 ?_
      refine jw_ifb_ne (pc := 20) (tgt := 26) C dX6_weeks_20 (by decide) (fun c_20 => ?_) (fun c_20 => ?_)
      · -- 20 t
        obtain ⟨kd, rfl⟩ : ∃ kd : Nat, dd = ((kd : Nat) : Int) := ⟨(dd).toNat, by omega⟩
        refine jw_aload_n (pc := 26) C dX6_weeks_26 0 rfl ?_
        refine jw_get (pc := 27) C hi_X6_weeks_X6 0 rfl rfl 1 (by decide) fl_X6_weeks_94 rfl rfl dX6_weeks_27 ?_
        refine jw_if_ne (pc := 30) (tgt := 38) C dX6_weeks_30 (by decide) (by omega) (fun c_30 => ?_) (fun c_30 => ?_)
        · -- 30 t
          refine jw_aload_n (pc := 38) C dX6_weeks_38 0 rfl ?_
          refine jw_iload_n (pc := 39) C dX6_weeks_39 1 rfl ?_
          refine jw_iload_n (pc := 40) C dX6_weeks_40 2 rfl ?_
          refine jw_iload_n (pc := 41) C dX6_weeks_41 3 rfl ?_
          refine jw_callWV (pc := 42) C [.int (jI ((kd : Nat) : Int)), .int (jI s0), .int (jI w)] [] 3 (con_X6_weeksNow lau D cI cB g co nh qk qv ns qh ql ch hd q9 q10 q11 q12 pl qp iw nw nz sd qs ik kc ks kg kh k26 k27 k28 k29 k30 k31 k32 hx K V SH SL SV kd s0 w (by omega) (by omega) hS hK hV (by omega) (by omega) (by omega)) gX6_weeks_X6_weeksNow rfl rfl rfl (by decide +kernel) ⟨Nat.le_of_ble_eq_true rfl, Nat.le_of_ble_eq_true rfl⟩ 0 rfl rfl [0, 1, 2, 3, 4, 5] [] [0, 1, 2, 3, 4, 5] (wr := []) rfl rfl (by decide) (by decide) (fun _ => rfl) (wN := fun u_42_1 => [oM g co ((nh : Nat) : Int) qk qv ((ns : Nat) : Int) qh ql ch ((hd : Nat) : Int) q9 q10 q11 q12 ((pl : Nat) : Int) qp iw nw nz ((0 : Nat) : Int) (jL (sp_wsd s0 ns kd)) qs ik kc ((ks : Nat) : Int) kg ((kh : Nat) : Int) k26 k27 k28 k29 k30 k31 k32 hx, aI cI qk 5 K, aI cI qv 5 V, aI cI qh 7 SH, aI cI ql 7 SL, aI cI qs 7 SH]) (fun _ => rfl) (stN := fun u_42_1 => [.int (jI (sp_weeksv K V nh SL ns kd s0 w))]) (fun _ => rfl) rfl (Nat.le_of_ble_eq_true rfl) rfl dX6_weeks_42 (fun u_42_1 hu_42_1 => ?_)
          exact jw_iretW (pc := 45) C E dX6_weeks_45 (((SH), (jL (sp_wsd s0 ns kd)))) (congrArg (fun z => some (Value.int (jI z))) (by unfold sp_weeks; (try simp only [Int.toNat_natCast]); first | (rw [if_neg (by omega)]; done) | (rw [if_pos (by omega), if_neg (by omega)]; done) | (rw [if_pos (by omega), if_pos (by omega)]; done))) trivial rfl
        · -- 30 f
          refine jw_bipush (pc := 33) C dX6_weeks_33 (by decide +kernel) ?_
          refine jw_goto (pc := 35) (tgt := 45) C dX6_weeks_35 (by decide) ?_
          exact jw_iretW (pc := 45) C E dX6_weeks_45 (((SV), (sd))) (congrArg (fun z => some (Value.int (jI z))) (by unfold sp_weeks; (try simp only [Int.toNat_natCast]); first | (rw [if_neg (by omega)]; done) | (rw [if_pos (by omega), if_neg (by omega)]; done) | (rw [if_pos (by omega), if_pos (by omega)]; done))) trivial rfl
      · -- 20 f
        refine jw_bipush (pc := 23) C dX6_weeks_23 (by decide +kernel) ?_
        exact jw_iretW (pc := 25) C E dX6_weeks_25 (((SV), (sd))) (congrArg (fun z => some (Value.int (jI z))) (by unfold sp_weeks; (try simp only [Int.toNat_natCast]); first | (rw [if_neg (by omega)]; done) | (rw [if_pos (by omega), if_neg (by omega)]; done) | (rw [if_pos (by omega), if_pos (by omega)]; done))) trivial rfl
theorem fl_X6_figure_34 : Cond.fieldLink RX6 34 "GongTideModel" "page" "[B" ∈ wsX6_figure := by decide +kernel
theorem fl_X6_figure_66 : Cond.fieldLink RX6 66 "GongTideModel" "pageLength" "I" ∈ wsX6_figure := by decide +kernel
theorem hi_X6_figure_X6 : ∀ w ∈ wsX60, w ∈ wsX6_figure := fun w h => List.mem_cons_of_mem _ (List.mem_append_right _ h)
def rmX6_figure : Room := { frames := 0, cells := 0, slots := 0, locals := 0 }
set_option maxHeartbeats 4000000 in
set_option maxRecDepth 100000 in
theorem con_X6_figure (lau : Launch) (D : va_G) (cI cB : ClassId) (g : Nat) (co : Int) (nh : Nat) (qk : Nat) (qv : Nat) (ns : Nat) (qh : Nat) (ql : Nat) (ch : Int) (hd : Nat) (q9 : Nat) (q10 : Nat) (q11 : Nat) (q12 : Nat) (pl : Nat) (qp : Nat) (iw : Int) (nw : Int) (nz : Int) (th : Nat) (sd : Int64) (qs : Nat) (ik : Int) (kc : Int) (ks : Nat) (kg : Int) (kh : Nat) (k26 : Nat) (k27 : Nat) (k28 : Nat) (k29 : Nat) (k30 : Nat) (k31 : Nat) (k32 : Nat) (hx : Int64) (P : Nat → Int) (k : Nat) (hpl : pl ≤ 25) (hP : ∀ k, k < pl → 32 ≤ P k ∧ P k ≤ 126) (hk : k ≤ 99) : jMR lau yX6_figure wsX6_figure rmX6_figure D cI cB [.ref g, .int (jI ((k : Nat) : Int))] [oM g co ((nh : Nat) : Int) qk qv ((ns : Nat) : Int) qh ql ch ((hd : Nat) : Int) q9 q10 q11 q12 ((pl : Nat) : Int) qp iw nw nz ((th : Nat) : Int) sd qs ik kc ((ks : Nat) : Int) kg ((kh : Nat) : Int) k26 k27 k28 k29 k30 k31 k32 hx, aI cB qp 25 P] (.int (jI (sp_fg P pl k))) := by
  refine jMR.of (own := RX6) (cc := cX6_figure) (maxL := 2) (ret := (some .int)) rfl (by decide) rfl (Nat.le_of_ble_eq_true rfl) ?_
  intro X C E
  refine jw_lv (lv' := [(0, .ref g), (1, .int (jI ((k : Nat) : Int)))]) [0, 1] rfl ?_
  refine jw_iload_n (pc := 0) C dX6_figure_0 1 rfl ?_
  refine jw_aload_n (pc := 1) C dX6_figure_1 0 rfl ?_
  refine jw_get (pc := 2) C hi_X6_figure_X6 0 rfl rfl 13 (by decide) fl_X6_figure_66 rfl rfl dX6_figure_2 ?_
  refine jw_icmp_ge (pc := 5) (tgt := 20) C dX6_figure_5 (by decide) (by omega) (by omega) (fun c_5 => ?_) (fun c_5 => ?_)
  · -- 5 t
    refine jw_iconst (pc := 20) C dX6_figure_20 ?_
    exact jw_iretR (pc := 21) C E dX6_figure_21 (congrArg jI (by unfold sp_fg; first | (rw [if_pos (by omega)]; done) | (rw [if_neg (by omega)]; done)))
  · -- 5 f
    refine jw_aload_n (pc := 8) C dX6_figure_8 0 rfl ?_
    refine jw_get (pc := 9) C hi_X6_figure_X6 0 rfl rfl 14 (by decide) fl_X6_figure_34 rfl rfl dX6_figure_9 ?_
    refine jw_iload_n (pc := 12) C dX6_figure_12 1 rfl ?_
    refine jw_bald (pc := 13) C (f := P) 1 k rfl rfl (by omega) (by decide) dX6_figure_13 ?_
    have r_13 := hP k (by omega)
    refine jw_bipush (pc := 14) C dX6_figure_14 (by decide +kernel) ?_
    refine jw_isub (pc := 16) (z := ((P k) - 48)) C dX6_figure_16 rfl ?_
    refine jw_goto (pc := 17) (tgt := 21) C dX6_figure_17 (by decide) ?_
    exact jw_iretR (pc := 21) C E dX6_figure_21 (congrArg jI (by unfold sp_fg; first | (rw [if_pos (by omega)]; done) | (rw [if_neg (by omega)]; done)))
theorem fl_X6_readStrokes_66 : Cond.fieldLink RX6 66 "GongTideModel" "pageLength" "I" ∈ wsX6_readStrokes := by decide +kernel
theorem fl_X6_readStrokes_70 : Cond.fieldLink RX6 70 "GongTideModel" "newStrokes" "I" ∈ wsX6_readStrokes := by decide +kernel
theorem fl_X6_readStrokes_73 : Cond.fieldLink RX6 73 "GongTideModel" "isWhole" "Z" ∈ wsX6_readStrokes := by decide +kernel
theorem hi_X6_readStrokes_X6 : ∀ w ∈ wsX60, w ∈ wsX6_readStrokes := fun w h => List.mem_cons_of_mem _ (List.mem_append_right _ h)
def rmX6_readStrokes : Room := { frames := 1, cells := 0, slots := 0, locals := 22 }
set_option maxHeartbeats 4000000 in
set_option maxRecDepth 100000 in
theorem con_X6_readStrokes (lau : Launch) (D : va_G) (cI cB : ClassId) (g : Nat) (co : Int) (nh : Nat) (qk : Nat) (qv : Nat) (ns : Nat) (qh : Nat) (ql : Nat) (ch : Int) (hd : Nat) (q9 : Nat) (q10 : Nat) (q11 : Nat) (q12 : Nat) (pl : Nat) (qp : Nat) (iw : Int) (nw : Int) (th : Nat) (sd : Int64) (qs : Nat) (ik : Int) (kc : Int) (ks : Nat) (kg : Int) (kh : Nat) (k26 : Nat) (k27 : Nat) (k28 : Nat) (k29 : Nat) (k30 : Nat) (k31 : Nat) (k32 : Nat) (hx : Int64) (P : Nat → Int) (k0 : Nat) (x : Nat) (hpl : pl ≤ 25) (hP : ∀ k, k < pl → 32 ≤ P k ∧ P k ≤ 126) (hk0 : k0 = 3 * x) (hx5 : 2 ≤ x ∧ x ≤ 5) (hk0l : k0 ≤ pl) (hxs : sp_hs P pl = ((x : Nat) : Int)) (hsh : ∀ j, j < 3 * x → sp_sh j (P j) = true) : jMW (S := Int) lau yX6_readStrokes wsX6_readStrokes rmX6_readStrokes D cI cB [.ref g, .int (jI ((k0 : Nat) : Int))] [oM g co ((nh : Nat) : Int) qk qv ((ns : Nat) : Int) qh ql ch ((hd : Nat) : Int) q9 q10 q11 q12 ((pl : Nat) : Int) qp iw nw 0 ((th : Nat) : Int) sd qs ik kc ((ks : Nat) : Int) kg ((kh : Nat) : Int) k26 k27 k28 k29 k30 k31 k32 hx, aI cB qp 25 P] (fun u => some (.int (jI ((sp_fault P pl : Nat) : Int)))) (fun u => (sp_whole P pl = true → u = ((sp_sn P pl : Nat) : Int))) (fun u => [oM g co ((nh : Nat) : Int) qk qv ((ns : Nat) : Int) qh ql ch ((hd : Nat) : Int) q9 q10 q11 q12 ((pl : Nat) : Int) qp (jb (sp_whole P pl = true)) nw u ((th : Nat) : Int) sd qs ik kc ((ks : Nat) : Int) kg ((kh : Nat) : Int) k26 k27 k28 k29 k30 k31 k32 hx, aI cB qp 25 P]) := by
  refine jMW.of (own := RX6) (cc := cX6_readStrokes) (maxL := 3) (ret := (some .int)) rfl (by decide) rfl (Nat.le_of_ble_eq_true rfl) ?_
  intro X C E
  refine jw_lv (lv' := [(0, .ref g), (1, .int (jI ((k0 : Nat) : Int)))]) [0, 1] rfl ?_
  refine jw_iload_n (pc := 0) C dX6_readStrokes_0 1 rfl ?_
  refine jw_istore_n (pc := 1) (lv' := [(2, .int (jI ((k0 : Nat) : Int))), (0, .ref g), (1, .int (jI ((k0 : Nat) : Int)))]) C dX6_readStrokes_1 (by decide) rfl ?_
  have lp_2_1 : ∀ (fu : Nat) (k : Nat) (s : Nat) (iv : Int), (k = 3 * x + 2 * s) → (s ≤ 4) → (k ≤ pl) → (∀ j, j < 2 * s → sp_ss j (P (3 * x + j)) = true) → 4 - s < fu → jW X 2 [(0, .ref g), (1, .int (jI ((k0 : Nat) : Int))), (2, .int (jI ((k : Nat) : Int)))] [] [oM g co ((nh : Nat) : Int) qk qv ((ns : Nat) : Int) qh ql ch ((hd : Nat) : Int) q9 q10 q11 q12 ((pl : Nat) : Int) qp iv nw ((s : Nat) : Int) ((th : Nat) : Int) sd qs ik kc ((ks : Nat) : Int) kg ((kh : Nat) : Int) k26 k27 k28 k29 k30 k31 k32 hx, aI cB qp 25 P] := by
    intro fu
    induction fu with
    | zero => intro k s iv hk hs4 hkl hss hm; exact absurd hm (Nat.not_lt_zero _)
    | succ fu ih_2 =>
      intro k s iv hk hs4 hkl hss hm
      refine jw_aload_n (pc := 2) C dX6_readStrokes_2 0 rfl ?_
      refine jw_get (pc := 3) C hi_X6_readStrokes_X6 0 rfl rfl 17 (by decide) fl_X6_readStrokes_70 rfl rfl dX6_readStrokes_3 ?_
      refine jw_iconst (pc := 6) C dX6_readStrokes_6 ?_
      refine jw_icmp_ge (pc := 7) (tgt := 93) C dX6_readStrokes_7 (by decide) (by omega) (by omega) (fun c_7 => ?_) (fun c_7 => ?_)
      · -- 7 t
        have jn_107_3 : jW X 107 [(0, .ref g), (1, .int (jI ((k0 : Nat) : Int))), (2, .int (jI ((k : Nat) : Int)))] [.int (jI (jb (k = pl))), .ref g] [oM g co ((nh : Nat) : Int) qk qv ((ns : Nat) : Int) qh ql ch ((hd : Nat) : Int) q9 q10 q11 q12 ((pl : Nat) : Int) qp iv nw ((s : Nat) : Int) ((th : Nat) : Int) sd qs ik kc ((ks : Nat) : Int) kg ((kh : Nat) : Int) k26 k27 k28 k29 k30 k31 k32 hx, aI cB qp 25 P] := by
          refine jw_put (pc := 107) (ty := .boolean) (ws' := [oM g co ((nh : Nat) : Int) qk qv ((ns : Nat) : Int) qh ql ch ((hd : Nat) : Int) q9 q10 q11 q12 ((pl : Nat) : Int) qp (jb (k = pl)) nw ((s : Nat) : Int) ((th : Nat) : Int) sd qs ik kc ((ks : Nat) : Int) kg ((kh : Nat) : Int) k26 k27 k28 k29 k30 k31 k32 hx, aI cB qp 25 P]) C hi_X6_readStrokes_X6 tyX6 tyX6_ok nmX6 0 rfl rfl 15 (by decide) fl_X6_readStrokes_73 rfl rfl (by decide +kernel) (jb_n _) (jb_fit _) (Nat.le_of_ble_eq_true rfl) rfl dX6_readStrokes_107 ?_
          have hrd : sp_fault P pl = k ∧ (sp_whole P pl = true ↔ k = pl) := by
              have h2 := sp_rd2 (q := k) hxs (by omega) (by omega) hsh (fun j hj => hss j (by omega)) (by
                rcases Nat.lt_or_ge k pl with g1 | g1
                · exact Or.inr (fun q => by have q2 := sp_ss_iff.mp q; omega)
                · exact Or.inl (by omega))
              exact ⟨h2.1, h2.2.trans (by omega)⟩
          refine jw_iload_n (pc := 110) C dX6_readStrokes_110 2 rfl ?_
          exact jw_iretW (pc := 111) C E dX6_readStrokes_111 (((s : Nat) : Int)) (by rw [hrd.1]) (fun q => by have q1 := hrd.2.mp q; have q2 := (sp_sn_x hxs).2; rw [q2]; omega) (by rw [jb_cg hrd.2])
        refine jw_aload_n (pc := 93) C dX6_readStrokes_93 0 rfl ?_
        refine jw_iload_n (pc := 94) C dX6_readStrokes_94 2 rfl ?_
        refine jw_aload_n (pc := 95) C dX6_readStrokes_95 0 rfl ?_
        refine jw_get (pc := 96) C hi_X6_readStrokes_X6 0 rfl rfl 13 (by decide) fl_X6_readStrokes_66 rfl rfl dX6_readStrokes_96 ?_
        refine jw_icmp_ne (pc := 99) (tgt := 106) C dX6_readStrokes_99 (by decide) (by omega) (by omega) (fun c_99 => ?_) (fun c_99 => ?_)
        · -- 99 t
          refine jw_iconst (pc := 106) C dX6_readStrokes_106 ?_
          refine jw_lv [0, 1, 2] rfl ?_
          refine jw_eq (jn_107_3  ) rfl (by first | rw [jb_t (by omega)] | rw [jb_f (by omega)]) rfl
        · -- 99 f
          refine jw_iconst (pc := 102) C dX6_readStrokes_102 ?_
          refine jw_goto (pc := 103) (tgt := 107) C dX6_readStrokes_103 (by decide) ?_
          refine jw_lv [0, 1, 2] rfl ?_
          refine jw_eq (jn_107_3  ) rfl (by first | rw [jb_t (by omega)] | rw [jb_f (by omega)]) rfl
      · -- 7 f
        have jn_31_4 : jW X 31 [(0, .ref g), (1, .int (jI ((k0 : Nat) : Int))), (2, .int (jI ((k : Nat) : Int)))] [.int (jI (jb (k = pl ∧ 0 < s))), .ref g] [oM g co ((nh : Nat) : Int) qk qv ((ns : Nat) : Int) qh ql ch ((hd : Nat) : Int) q9 q10 q11 q12 ((pl : Nat) : Int) qp iv nw ((s : Nat) : Int) ((th : Nat) : Int) sd qs ik kc ((ks : Nat) : Int) kg ((kh : Nat) : Int) k26 k27 k28 k29 k30 k31 k32 hx, aI cB qp 25 P] := by
          refine jw_put (pc := 31) (ty := .boolean) (ws' := [oM g co ((nh : Nat) : Int) qk qv ((ns : Nat) : Int) qh ql ch ((hd : Nat) : Int) q9 q10 q11 q12 ((pl : Nat) : Int) qp (jb (k = pl ∧ 0 < s)) nw ((s : Nat) : Int) ((th : Nat) : Int) sd qs ik kc ((ks : Nat) : Int) kg ((kh : Nat) : Int) k26 k27 k28 k29 k30 k31 k32 hx, aI cB qp 25 P]) C hi_X6_readStrokes_X6 tyX6 tyX6_ok nmX6 0 rfl rfl 15 (by decide) fl_X6_readStrokes_73 rfl rfl (by decide +kernel) (jb_n _) (jb_fit _) (Nat.le_of_ble_eq_true rfl) rfl dX6_readStrokes_31 ?_
          refine jw_aload_n (pc := 34) C dX6_readStrokes_34 0 rfl ?_
          refine jw_get (pc := 35) C hi_X6_readStrokes_X6 0 rfl rfl 15 (by decide) fl_X6_readStrokes_73 rfl rfl dX6_readStrokes_35 ?_
          refine jw_ifb_ne (pc := 38) (tgt := 55) C dX6_readStrokes_38 (by decide) (fun c_38 => ?_) (fun c_38 => ?_)
          · -- 38 t
            have hrd : sp_fault P pl = k ∧ (sp_whole P pl = true ↔ (k = pl ∧ 0 < s)) := by
                have h2 := sp_rd2 (q := k) hxs (by omega) (by omega) hsh (fun j hj => hss j (by omega)) (by
                  rcases Nat.lt_or_ge k pl with g1 | g1
                  · exact Or.inr (fun q => by have q2 := sp_ss_iff.mp q; have q3 := sp_fg_in (P := P) g1; omega)
                  · exact Or.inl (by omega))
                exact ⟨h2.1, h2.2.trans (by omega)⟩
            refine jw_iload_n (pc := 55) C dX6_readStrokes_55 2 rfl ?_
            exact jw_iretW (pc := 56) C E dX6_readStrokes_56 (((s : Nat) : Int)) (by rw [hrd.1]) (fun q => by have q1 := hrd.2.mp q; have q2 := (sp_sn_x hxs).2; rw [q2]; omega) (by rw [jb_cg hrd.2])
          · -- 38 f
            refine jw_aload_n (pc := 41) C dX6_readStrokes_41 0 rfl ?_
            refine jw_iload_n (pc := 42) C dX6_readStrokes_42 2 rfl ?_
            refine jw_callRV (pc := 43) C [.int (jI ((k : Nat) : Int))] [] 1 (con_X6_figure lau D cI cB g co nh qk qv ns qh ql ch hd q9 q10 q11 q12 pl qp ((jb (k = pl ∧ 0 < s))) nw (((s : Nat) : Int)) th sd qs ik kc ks kg kh k26 k27 k28 k29 k30 k31 k32 hx P k (by omega) hP (by omega)) gX6_readStrokes_X6_figure rfl rfl rfl (by decide +kernel) ⟨Nat.le_of_ble_eq_true rfl, Nat.le_of_ble_eq_true rfl⟩ 0 rfl rfl [0, 1] rfl rfl (Nat.le_of_ble_eq_true rfl) rfl dX6_readStrokes_43 ?_
            have b_43_0 := sp_fg_b hP k
            refine jw_iconst (pc := 46) C dX6_readStrokes_46 ?_
            refine jw_bipush (pc := 47) C dX6_readStrokes_47 (by decide +kernel) ?_
            refine jw_callRS (pc := 49) C [.int (jI (((sp_fg P pl k)))), .int (jI 0), .int (jI 9)] [] 3 (con_X6_within lau D cI cB ((sp_fg P pl k)) 0 9 (by omega) (by omega) (by omega)) gX6_readStrokes_X6_within rfl rfl rfl (by decide +kernel) ⟨Nat.le_of_ble_eq_true rfl, Nat.le_of_ble_eq_true rfl⟩ [] rfl rfl (Nat.le_of_ble_eq_true rfl) rfl dX6_readStrokes_49 ?_
            refine jw_ifb_ne (pc := 52) (tgt := 57) C dX6_readStrokes_52 (by decide) (fun c_52 => ?_) (fun c_52 => ?_)
            · -- 52 t
              refine jw_aload_n (pc := 57) C dX6_readStrokes_57 0 rfl ?_
              refine jw_iload_n (pc := 58) C dX6_readStrokes_58 2 rfl ?_
              refine jw_iconst (pc := 59) C dX6_readStrokes_59 ?_
              refine jw_iadd (pc := 60) (z := ((k + 1 : Nat) : Int)) C dX6_readStrokes_60 (by omega) ?_
              refine jw_callRV (pc := 61) C [.int (jI (((k + 1) : Nat) : Int))] [] 1 (con_X6_figure lau D cI cB g co nh qk qv ns qh ql ch hd q9 q10 q11 q12 pl qp ((jb (k = pl ∧ 0 < s))) nw (((s : Nat) : Int)) th sd qs ik kc ks kg kh k26 k27 k28 k29 k30 k31 k32 hx P (k + 1) (by omega) hP (by omega)) gX6_readStrokes_X6_figure rfl rfl rfl (by decide +kernel) ⟨Nat.le_of_ble_eq_true rfl, Nat.le_of_ble_eq_true rfl⟩ 0 rfl rfl [0, 1] rfl rfl (Nat.le_of_ble_eq_true rfl) rfl dX6_readStrokes_61 ?_
              have b_61_0 := sp_fg_b hP (k + 1)
              refine jw_iconst (pc := 64) C dX6_readStrokes_64 ?_
              refine jw_bipush (pc := 65) C dX6_readStrokes_65 (by decide +kernel) ?_
              refine jw_callRS (pc := 67) C [.int (jI (((sp_fg P pl (k + 1))))), .int (jI 1), .int (jI 9)] [] 3 (con_X6_within lau D cI cB ((sp_fg P pl (k + 1))) 1 9 (by omega) (by omega) (by omega)) gX6_readStrokes_X6_within rfl rfl rfl (by decide +kernel) ⟨Nat.le_of_ble_eq_true rfl, Nat.le_of_ble_eq_true rfl⟩ [] rfl rfl (Nat.le_of_ble_eq_true rfl) rfl dX6_readStrokes_67 ?_
              refine jw_ifb_ne (pc := 70) (tgt := 77) C dX6_readStrokes_70 (by decide) (fun c_70 => ?_) (fun c_70 => ?_)
              · -- 70 t
                refine jw_aload_n (pc := 77) C dX6_readStrokes_77 0 rfl ?_
                refine jw_dup (pc := 78) C dX6_readStrokes_78 rfl ?_
                refine jw_get (pc := 79) C hi_X6_readStrokes_X6 0 rfl rfl 17 (by decide) fl_X6_readStrokes_70 rfl rfl dX6_readStrokes_79 ?_
                refine jw_iconst (pc := 82) C dX6_readStrokes_82 ?_
                refine jw_iadd (pc := 83) (z := ((s + 1 : Nat) : Int)) C dX6_readStrokes_83 (by omega) ?_
                refine jw_put (pc := 84) (ty := .int) (ws' := [oM g co ((nh : Nat) : Int) qk qv ((ns : Nat) : Int) qh ql ch ((hd : Nat) : Int) q9 q10 q11 q12 ((pl : Nat) : Int) qp (jb (k = pl ∧ 0 < s)) nw ((s + 1 : Nat) : Int) ((th : Nat) : Int) sd qs ik kc ((ks : Nat) : Int) kg ((kh : Nat) : Int) k26 k27 k28 k29 k30 k31 k32 hx, aI cB qp 25 P]) C hi_X6_readStrokes_X6 tyX6 tyX6_ok nmX6 0 rfl rfl 17 (by decide) fl_X6_readStrokes_70 rfl rfl (by decide +kernel) rfl rfl (Nat.le_of_ble_eq_true rfl) rfl dX6_readStrokes_84 ?_
                refine jw_iinc (pc := 87) (z := ((k + 2 : Nat) : Int)) (lv' := [(2, .int (jI ((k + 2 : Nat) : Int))), (0, .ref g), (1, .int (jI ((k0 : Nat) : Int)))]) C dX6_readStrokes_87 2 rfl (by omega) (by decide) rfl ?_
                refine jw_goto (pc := 90) (tgt := 2) C dX6_readStrokes_90 (by decide) ?_
                refine jw_lv [1, 2, 0] rfl ?_
                exact ih_2 (k + 2) (s + 1) ((jb (k = pl ∧ 0 < s))) (by omega) (by omega) (by have := sp_fg_d (P := P) (n := pl) (k := k + 1) (by omega); omega) (fun j hj => by
                      by_cases e1 : j < 2 * s
                      · exact hss j e1
                      · have f1 := (sp_fg_d (P := P) (n := pl) (k := k) (by omega)).2
                        have f2 := (sp_fg_d (P := P) (n := pl) (k := k + 1) (by omega)).2
                        have ej : j = 2 * s ∨ j = 2 * s + 1 := by omega
                        rcases ej with rfl | rfl
                        · rw [show 3 * x + 2 * s = k by omega]; exact sp_ss_iff.mpr (by omega)
                        · rw [show 3 * x + (2 * s + 1) = k + 1 by omega]; exact sp_ss_iff.mpr (by omega)) (by omega)
              · -- 70 f
                have hf0 := sp_fg_d (P := P) (n := pl) (k := k) (by omega)
                have hrd : sp_fault P pl = k + 1 ∧ (sp_whole P pl = true ↔ (k = pl ∧ 0 < s)) := by
                    have h2 := sp_rd2 (q := k + 1) hxs (by omega) (by omega) hsh (fun j hj => by
                      by_cases e1 : j < 2 * s
                      · exact hss j e1
                      · rw [show 3 * x + j = k by omega]; exact sp_ss_iff.mpr (by omega)) (by
                      rcases Nat.lt_or_ge (k + 1) pl with g1 | g1
                      · exact Or.inr (fun q => by have q2 := sp_ss_iff.mp q; have q3 := sp_fg_in (P := P) g1; omega)
                      · exact Or.inl (by omega))
                    exact ⟨h2.1, h2.2.trans (by omega)⟩
                refine jw_iload_n (pc := 73) C dX6_readStrokes_73 2 rfl ?_
                refine jw_iconst (pc := 74) C dX6_readStrokes_74 ?_
                refine jw_iadd (pc := 75) (z := ((k + 1 : Nat) : Int)) C dX6_readStrokes_75 (by omega) ?_
                exact jw_iretW (pc := 76) C E dX6_readStrokes_76 (((s : Nat) : Int)) (by rw [hrd.1]) (fun q => by have q1 := hrd.2.mp q; have q2 := (sp_sn_x hxs).2; rw [q2]; omega) (by rw [jb_cg hrd.2])
            · -- 52 f
              have hrd : sp_fault P pl = k ∧ (sp_whole P pl = true ↔ (k = pl ∧ 0 < s)) := by
                  have h2 := sp_rd2 (q := k) hxs (by omega) (by omega) hsh (fun j hj => hss j (by omega)) (by
                    rcases Nat.lt_or_ge k pl with g1 | g1
                    · exact Or.inr (fun q => by have q2 := sp_ss_iff.mp q; have q3 := sp_fg_in (P := P) g1; omega)
                    · exact Or.inl (by omega))
                  exact ⟨h2.1, h2.2.trans (by omega)⟩
              refine jw_iload_n (pc := 55) C dX6_readStrokes_55 2 rfl ?_
              exact jw_iretW (pc := 56) C E dX6_readStrokes_56 (((s : Nat) : Int)) (by rw [hrd.1]) (fun q => by have q1 := hrd.2.mp q; have q2 := (sp_sn_x hxs).2; rw [q2]; omega) (by rw [jb_cg hrd.2])
        refine jw_aload_n (pc := 10) C dX6_readStrokes_10 0 rfl ?_
        refine jw_iload_n (pc := 11) C dX6_readStrokes_11 2 rfl ?_
        refine jw_aload_n (pc := 12) C dX6_readStrokes_12 0 rfl ?_
        refine jw_get (pc := 13) C hi_X6_readStrokes_X6 0 rfl rfl 13 (by decide) fl_X6_readStrokes_66 rfl rfl dX6_readStrokes_13 ?_
        refine jw_icmp_ne (pc := 16) (tgt := 30) C dX6_readStrokes_16 (by decide) (by omega) (by omega) (fun c_16 => ?_) (fun c_16 => ?_)
        · -- 16 t
          refine jw_iconst (pc := 30) C dX6_readStrokes_30 ?_
          refine jw_lv [0, 1, 2] rfl ?_
          refine jw_eq (jn_31_4  ) rfl (by first | rw [jb_t (by omega)] | rw [jb_f (by omega)]) rfl
        · -- 16 f
          refine jw_aload_n (pc := 19) C dX6_readStrokes_19 0 rfl ?_
          refine jw_get (pc := 20) C hi_X6_readStrokes_X6 0 rfl rfl 17 (by decide) fl_X6_readStrokes_70 rfl rfl dX6_readStrokes_20 ?_
          refine jw_if_le (pc := 23) (tgt := 30) C dX6_readStrokes_23 (by decide) (by omega) (fun c_23 => ?_) (fun c_23 => ?_)
          · -- 23 t
            refine jw_iconst (pc := 30) C dX6_readStrokes_30 ?_
            refine jw_lv [0, 1, 2] rfl ?_
            refine jw_eq (jn_31_4  ) rfl (by first | rw [jb_t (by omega)] | rw [jb_f (by omega)]) rfl
          · -- 23 f
            refine jw_iconst (pc := 26) C dX6_readStrokes_26 ?_
            refine jw_goto (pc := 27) (tgt := 31) C dX6_readStrokes_27 (by decide) ?_
            refine jw_lv [0, 1, 2] rfl ?_
            refine jw_eq (jn_31_4  ) rfl (by first | rw [jb_t (by omega)] | rw [jb_f (by omega)]) rfl
  refine jw_lv [1, 2, 0] rfl ?_
  exact lp_2_1 ((4 - 0) + 1) k0 0 iw (by omega) (by omega) (by omega) (fun j hj => absurd hj (Nat.not_lt_zero _)) (Nat.lt_succ_self _)
theorem fl_X6_read_34 : Cond.fieldLink RX6 34 "GongTideModel" "page" "[B" ∈ wsX6_read := by decide +kernel
theorem fl_X6_read_66 : Cond.fieldLink RX6 66 "GongTideModel" "pageLength" "I" ∈ wsX6_read := by decide +kernel
theorem fl_X6_read_70 : Cond.fieldLink RX6 70 "GongTideModel" "newStrokes" "I" ∈ wsX6_read := by decide +kernel
theorem fl_X6_read_73 : Cond.fieldLink RX6 73 "GongTideModel" "isWhole" "Z" ∈ wsX6_read := by decide +kernel
theorem fl_X6_read_81 : Cond.fieldLink RX6 81 "GongTideModel" "newHouses" "I" ∈ wsX6_read := by decide +kernel
theorem hi_X6_read_X6 : ∀ w ∈ wsX60, w ∈ wsX6_read := fun w h => List.mem_cons_of_mem _ (List.mem_append_right _ h)
def rmX6_read : Room := { frames := 2, cells := 0, slots := 0, locals := 44 }
set_option maxHeartbeats 4000000 in
set_option maxRecDepth 100000 in
theorem con_X6_read (lau : Launch) (D : va_G) (cI cB : ClassId) (g : Nat) (co : Int) (nh : Nat) (qk : Nat) (qv : Nat) (ns : Nat) (qh : Nat) (ql : Nat) (ch : Int) (hd : Nat) (q9 : Nat) (q10 : Nat) (q11 : Nat) (q12 : Nat) (pl : Nat) (qp : Nat) (th : Nat) (sd : Int64) (qs : Nat) (ik : Int) (kc : Int) (ks : Nat) (kg : Int) (kh : Nat) (k26 : Nat) (k27 : Nat) (k28 : Nat) (k29 : Nat) (k30 : Nat) (k31 : Nat) (k32 : Nat) (hx : Int64) (iw : Int) (nw : Int) (nz : Int) (P : Nat → Int) (hpl : pl ≤ 25) (hP : ∀ k, k < pl → 32 ≤ P k ∧ P k ≤ 126) : jMW (S := Int × Int) lau yX6_read wsX6_read rmX6_read D cI cB [.ref g] [oM g co ((nh : Nat) : Int) qk qv ((ns : Nat) : Int) qh ql ch ((hd : Nat) : Int) q9 q10 q11 q12 ((pl : Nat) : Int) qp iw nw nz ((th : Nat) : Int) sd qs ik kc ((ks : Nat) : Int) kg ((kh : Nat) : Int) k26 k27 k28 k29 k30 k31 k32 hx, aI cB qp 25 P] (fun u => some (.int (jI ((sp_fault P pl : Nat) : Int)))) (fun u => (sp_whole P pl = true → u.1 = ((sp_hn P pl : Nat) : Int) ∧ u.2 = ((sp_sn P pl : Nat) : Int))) (fun u => [oM g co ((nh : Nat) : Int) qk qv ((ns : Nat) : Int) qh ql ch ((hd : Nat) : Int) q9 q10 q11 q12 ((pl : Nat) : Int) qp (jb (sp_whole P pl = true)) u.1 u.2 ((th : Nat) : Int) sd qs ik kc ((ks : Nat) : Int) kg ((kh : Nat) : Int) k26 k27 k28 k29 k30 k31 k32 hx, aI cB qp 25 P]) := by
  refine jMW.of (own := RX6) (cc := cX6_read) (maxL := 2) (ret := (some .int)) rfl (by decide) rfl (Nat.le_of_ble_eq_true rfl) ?_
  intro X C E
  refine jw_lv (lv' := [(0, .ref g)]) [0] rfl ?_
  refine jw_aload_n (pc := 0) C dX6_read_0 0 rfl ?_
  refine jw_iconst (pc := 1) C dX6_read_1 ?_
  refine jw_put (pc := 2) (ty := .boolean) (ws' := [oM g co ((nh : Nat) : Int) qk qv ((ns : Nat) : Int) qh ql ch ((hd : Nat) : Int) q9 q10 q11 q12 ((pl : Nat) : Int) qp 0 nw nz ((th : Nat) : Int) sd qs ik kc ((ks : Nat) : Int) kg ((kh : Nat) : Int) k26 k27 k28 k29 k30 k31 k32 hx, aI cB qp 25 P]) C hi_X6_read_X6 tyX6 tyX6_ok nmX6 0 rfl rfl 15 (by decide) fl_X6_read_73 rfl rfl (by decide +kernel) rfl rfl (Nat.le_of_ble_eq_true rfl) rfl dX6_read_2 ?_
  refine jw_aload_n (pc := 5) C dX6_read_5 0 rfl ?_
  refine jw_iconst (pc := 6) C dX6_read_6 ?_
  refine jw_put (pc := 7) (ty := .int) (ws' := [oM g co ((nh : Nat) : Int) qk qv ((ns : Nat) : Int) qh ql ch ((hd : Nat) : Int) q9 q10 q11 q12 ((pl : Nat) : Int) qp 0 0 nz ((th : Nat) : Int) sd qs ik kc ((ks : Nat) : Int) kg ((kh : Nat) : Int) k26 k27 k28 k29 k30 k31 k32 hx, aI cB qp 25 P]) C hi_X6_read_X6 tyX6 tyX6_ok nmX6 0 rfl rfl 16 (by decide) fl_X6_read_81 rfl rfl (by decide +kernel) rfl rfl (Nat.le_of_ble_eq_true rfl) rfl dX6_read_7 ?_
  refine jw_aload_n (pc := 10) C dX6_read_10 0 rfl ?_
  refine jw_iconst (pc := 11) C dX6_read_11 ?_
  refine jw_put (pc := 12) (ty := .int) (ws' := [oM g co ((nh : Nat) : Int) qk qv ((ns : Nat) : Int) qh ql ch ((hd : Nat) : Int) q9 q10 q11 q12 ((pl : Nat) : Int) qp 0 0 0 ((th : Nat) : Int) sd qs ik kc ((ks : Nat) : Int) kg ((kh : Nat) : Int) k26 k27 k28 k29 k30 k31 k32 hx, aI cB qp 25 P]) C hi_X6_read_X6 tyX6 tyX6_ok nmX6 0 rfl rfl 17 (by decide) fl_X6_read_70 rfl rfl (by decide +kernel) rfl rfl (Nat.le_of_ble_eq_true rfl) rfl dX6_read_12 ?_
  refine jw_iconst (pc := 15) C dX6_read_15 ?_
  refine jw_istore_n (pc := 16) (lv' := [(1, .int (jI 0)), (0, .ref g)]) C dX6_read_16 (by decide) rfl ?_
  have lp_17_1 : ∀ (fu : Nat) (k : Nat) (x : Nat), (k = 3 * x) → (x ≤ 4) → (k ≤ pl) → (∀ j, j < k → sp_sh j (P j) = true) → (∀ y, 1 ≤ y → y ≤ x → P (3 * y - 1) = 44) → 5 - x < fu → jW X 17 [(0, .ref g), (1, .int (jI ((k : Nat) : Int)))] [] [oM g co ((nh : Nat) : Int) qk qv ((ns : Nat) : Int) qh ql ch ((hd : Nat) : Int) q9 q10 q11 q12 ((pl : Nat) : Int) qp 0 ((x : Nat) : Int) 0 ((th : Nat) : Int) sd qs ik kc ((ks : Nat) : Int) kg ((kh : Nat) : Int) k26 k27 k28 k29 k30 k31 k32 hx, aI cB qp 25 P] := by
    intro fu
    induction fu with
    | zero => intro k x hk hx4 hkl hsh hcm hm; exact absurd hm (Nat.not_lt_zero _)
    | succ fu ih_2 =>
      intro k x hk hx4 hkl hsh hcm hm
      refine jw_aload_n (pc := 17) C dX6_read_17 0 rfl ?_
      refine jw_get (pc := 18) C hi_X6_read_X6 0 rfl rfl 16 (by decide) fl_X6_read_81 rfl rfl dX6_read_18 ?_
      refine jw_iconst (pc := 21) C dX6_read_21 ?_
      refine jw_icmp_ge (pc := 22) (tgt := 151) C dX6_read_22 (by decide) (by omega) (by omega) (fun c_22 => ?_) (fun c_22 => ?_)
      · exfalso; omega
      · -- 22 f
        refine jw_iload_n (pc := 25) C dX6_read_25 1 rfl ?_
        refine jw_aload_n (pc := 26) C dX6_read_26 0 rfl ?_
        refine jw_get (pc := 27) C hi_X6_read_X6 0 rfl rfl 13 (by decide) fl_X6_read_66 rfl rfl dX6_read_27 ?_
        refine jw_icmp_eq (pc := 30) (tgt := 46) C dX6_read_30 (by decide) (by omega) (by omega) (fun c_30 => ?_) (fun c_30 => ?_)
        · -- 30 t
          have hrd := sp_rd1 (q := k) (P := P) (n := pl) (by omega) hsh (fun y b1 b2 => by have := hcm y (by omega) (by omega); omega) (by first | (exact Or.inl (by omega)) | (exact Or.inr (fun q => by have q2 := sp_sh_iff.mp q; omega)))
          refine jw_iload_n (pc := 46) C dX6_read_46 1 rfl ?_
          exact jw_iretW (pc := 47) C E dX6_read_47 ((((x : Nat) : Int), 0)) (by rw [hrd.1]) (fun q => absurd q hrd.2) (by rw [jb_f hrd.2])
        · -- 30 f
          refine jw_aload_n (pc := 33) C dX6_read_33 0 rfl ?_
          refine jw_get (pc := 34) C hi_X6_read_X6 0 rfl rfl 14 (by decide) fl_X6_read_34 rfl rfl dX6_read_34 ?_
          refine jw_iload_n (pc := 37) C dX6_read_37 1 rfl ?_
          refine jw_bald (pc := 38) C (f := P) 1 k rfl rfl (by omega) (by decide) dX6_read_38 ?_
          have r_38 := hP k (by omega)
          refine jw_callRS (pc := 39) C [.int (jI (((P k))))] [] 1 (con_X6_kindBy lau D cI cB ((P k)) (by omega)) gX6_read_X6_kindBy rfl rfl rfl (by decide +kernel) ⟨Nat.le_of_ble_eq_true rfl, Nat.le_of_ble_eq_true rfl⟩ [] rfl rfl (Nat.le_of_ble_eq_true rfl) rfl dX6_read_39 ?_
          have b_39_0 := sp_kind_b ((P k))
          refine jw_iconst (pc := 42) C dX6_read_42 ?_
          refine jw_icmp_ne (pc := 43) (tgt := 48) C dX6_read_43 (by decide) (by omega) (by omega) (fun c_43 => ?_) (fun c_43 => ?_)
          · -- 43 t
            refine jw_aload_n (pc := 48) C dX6_read_48 0 rfl ?_
            refine jw_iload_n (pc := 49) C dX6_read_49 1 rfl ?_
            refine jw_iconst (pc := 50) C dX6_read_50 ?_
            refine jw_iadd (pc := 51) (z := ((k + 1 : Nat) : Int)) C dX6_read_51 (by omega) ?_
            refine jw_callRV (pc := 52) C [.int (jI (((k + 1) : Nat) : Int))] [] 1 (con_X6_figure lau D cI cB g co nh qk qv ns qh ql ch hd q9 q10 q11 q12 pl qp 0 (((x : Nat) : Int)) 0 th sd qs ik kc ks kg kh k26 k27 k28 k29 k30 k31 k32 hx P (k + 1) (by omega) hP (by omega)) gX6_read_X6_figure rfl rfl rfl (by decide +kernel) ⟨Nat.le_of_ble_eq_true rfl, Nat.le_of_ble_eq_true rfl⟩ 0 rfl rfl [0, 1] rfl rfl (Nat.le_of_ble_eq_true rfl) rfl dX6_read_52 ?_
            have b_52_0 := sp_fg_b hP (k + 1)
            refine jw_iconst (pc := 55) C dX6_read_55 ?_
            refine jw_bipush (pc := 56) C dX6_read_56 (by decide +kernel) ?_
            refine jw_callRS (pc := 58) C [.int (jI (((sp_fg P pl (k + 1))))), .int (jI 0), .int (jI 9)] [] 3 (con_X6_within lau D cI cB ((sp_fg P pl (k + 1))) 0 9 (by omega) (by omega) (by omega)) gX6_read_X6_within rfl rfl rfl (by decide +kernel) ⟨Nat.le_of_ble_eq_true rfl, Nat.le_of_ble_eq_true rfl⟩ [] rfl rfl (Nat.le_of_ble_eq_true rfl) rfl dX6_read_58 ?_
            refine jw_ifb_ne (pc := 61) (tgt := 68) C dX6_read_61 (by decide) (fun c_61 => ?_) (fun c_61 => ?_)
            · -- 61 t
              have hf0 := sp_fg_d (P := P) (n := pl) (k := k + 1) (by omega)
              have hsh2 : ∀ j, j < k + 2 → sp_sh j (P j) = true := fun j hj => by
                  by_cases e1 : j < k
                  · exact hsh j e1
                  · have ej : j = k ∨ j = k + 1 := by omega
                    rcases ej with rfl | rfl
                    · exact sp_sh_iff.mpr (by omega)
                    · exact sp_sh_iff.mpr (by omega)
              refine jw_aload_n (pc := 68) C dX6_read_68 0 rfl ?_
              refine jw_dup (pc := 69) C dX6_read_69 rfl ?_
              refine jw_get (pc := 70) C hi_X6_read_X6 0 rfl rfl 16 (by decide) fl_X6_read_81 rfl rfl dX6_read_70 ?_
              refine jw_iconst (pc := 73) C dX6_read_73 ?_
              refine jw_iadd (pc := 74) (z := ((x + 1 : Nat) : Int)) C dX6_read_74 (by omega) ?_
              refine jw_put (pc := 75) (ty := .int) (ws' := [oM g co ((nh : Nat) : Int) qk qv ((ns : Nat) : Int) qh ql ch ((hd : Nat) : Int) q9 q10 q11 q12 ((pl : Nat) : Int) qp 0 ((x + 1 : Nat) : Int) 0 ((th : Nat) : Int) sd qs ik kc ((ks : Nat) : Int) kg ((kh : Nat) : Int) k26 k27 k28 k29 k30 k31 k32 hx, aI cB qp 25 P]) C hi_X6_read_X6 tyX6 tyX6_ok nmX6 0 rfl rfl 16 (by decide) fl_X6_read_81 rfl rfl (by decide +kernel) rfl rfl (Nat.le_of_ble_eq_true rfl) rfl dX6_read_75 ?_
              refine jw_iinc (pc := 78) (z := ((k + 2 : Nat) : Int)) (lv' := [(1, .int (jI ((k + 2 : Nat) : Int))), (0, .ref g)]) C dX6_read_78 1 rfl (by omega) (by decide) rfl ?_
              refine jw_iload_n (pc := 81) C dX6_read_81 0 rfl ?_
              refine jw_aload_n (pc := 82) C dX6_read_82 1 rfl ?_
              refine jw_get (pc := 83) C hi_X6_read_X6 0 rfl rfl 13 (by decide) fl_X6_read_66 rfl rfl dX6_read_83 ?_
              refine jw_icmp_ge (pc := 86) (tgt := 116) C dX6_read_86 (by decide) (by omega) (by omega) (fun c_86 => ?_) (fun c_86 => ?_)
              · -- 86 t
                refine jw_iload_n (pc := 116) C dX6_read_116 0 rfl ?_
                refine jw_aload_n (pc := 117) C dX6_read_117 1 rfl ?_
                refine jw_get (pc := 118) C hi_X6_read_X6 0 rfl rfl 13 (by decide) fl_X6_read_66 rfl rfl dX6_read_118 ?_
                refine jw_icmp_eq (pc := 121) (tgt := 143) C dX6_read_121 (by decide) (by omega) (by omega) (fun c_121 => ?_) (fun c_121 => ?_)
                · -- 121 t
                  have hrd := sp_rd1 (q := k + 2) (P := P) (n := pl) (by omega) hsh2 (fun y b1 b2 => by have := hcm y (by omega) (by omega); omega) (by first | (exact Or.inl (by omega)) | (exact Or.inr (fun q => by have q2 := sp_sh_iff.mp q; omega)))
                  refine jw_iload_n (pc := 143) C dX6_read_143 0 rfl ?_
                  exact jw_iretW (pc := 144) C E dX6_read_144 ((((x + 1 : Nat) : Int), 0)) (by rw [hrd.1]) (fun q => absurd q hrd.2) (by rw [jb_f hrd.2])
                · -- 121 f
                  refine jw_aload_n (pc := 124) C dX6_read_124 1 rfl ?_
                  refine jw_get (pc := 125) C hi_X6_read_X6 0 rfl rfl 16 (by decide) fl_X6_read_81 rfl rfl dX6_read_125 ?_
                  refine jw_iconst (pc := 128) C dX6_read_128 ?_
                  refine jw_icmp_eq (pc := 129) (tgt := 143) C dX6_read_129 (by decide) (by omega) (by omega) (fun c_129 => ?_) (fun c_129 => ?_)
                  · -- 129 t
                    have hrd := sp_rd1 (q := k + 2) (P := P) (n := pl) (by omega) hsh2 (fun y b1 b2 => by have := hcm y (by omega) (by omega); omega) (by first | (exact Or.inl (by omega)) | (exact Or.inr (fun q => by have q2 := sp_sh_iff.mp q; omega)))
                    refine jw_iload_n (pc := 143) C dX6_read_143 0 rfl ?_
                    exact jw_iretW (pc := 144) C E dX6_read_144 ((((x + 1 : Nat) : Int), 0)) (by rw [hrd.1]) (fun q => absurd q hrd.2) (by rw [jb_f hrd.2])
                  · -- 129 f
                    refine jw_aload_n (pc := 132) C dX6_read_132 1 rfl ?_
                    refine jw_get (pc := 133) C hi_X6_read_X6 0 rfl rfl 14 (by decide) fl_X6_read_34 rfl rfl dX6_read_133 ?_
                    refine jw_iload_n (pc := 136) C dX6_read_136 0 rfl ?_
                    refine jw_bald (pc := 137) C (f := P) 1 (k + 2) rfl rfl (by omega) (by decide) dX6_read_137 ?_
                    have r_137 := hP (k + 2) (by omega)
                    refine jw_bipush (pc := 138) C dX6_read_138 (by decide +kernel) ?_
                    refine jw_icmp_eq (pc := 140) (tgt := 145) C dX6_read_140 (by decide) (by omega) (by omega) (fun c_140 => ?_) (fun c_140 => ?_)
                    · -- 140 t
                      refine jw_iinc (pc := 145) (z := ((k + 2 + 1 : Nat) : Int)) (lv' := [(1, .int (jI ((k + 2 + 1 : Nat) : Int))), (0, .ref g)]) C dX6_read_145 0 rfl (by omega) (by decide) rfl ?_
                      refine jw_goto (pc := 148) (tgt := 17) C dX6_read_148 (by decide) ?_
                      refine jw_lv [1, 0] rfl ?_
                      exact ih_2 (k + 2 + 1) (x + 1) (by omega) (by omega) (by omega) (fun j hj => by
                            by_cases e1 : j < k
                            · exact hsh j e1
                            · have f2 := sp_fg_d (P := P) (n := pl) (k := k + 1) (by omega)
                              have ej : j = k ∨ j = k + 1 ∨ j = k + 2 := by omega
                              rcases ej with rfl | rfl | rfl
                              · exact sp_sh_iff.mpr (by omega)
                              · exact sp_sh_iff.mpr (by omega)
                              · exact sp_sh_iff.mpr (by omega)) (fun y b1 b2 => by
                            by_cases e1 : y ≤ x
                            · exact hcm y b1 e1
                            · rw [show 3 * y - 1 = k + 2 by omega]; omega) (by omega)
                    · -- 140 f
                      have hrd := sp_rd1 (q := k + 2) (P := P) (n := pl) (by omega) hsh2 (fun y b1 b2 => by have := hcm y (by omega) (by omega); omega) (by first | (exact Or.inl (by omega)) | (exact Or.inr (fun q => by have q2 := sp_sh_iff.mp q; omega)))
                      refine jw_iload_n (pc := 143) C dX6_read_143 0 rfl ?_
                      exact jw_iretW (pc := 144) C E dX6_read_144 ((((x + 1 : Nat) : Int), 0)) (by rw [hrd.1]) (fun q => absurd q hrd.2) (by rw [jb_f hrd.2])
              · -- 86 f
                refine jw_aload_n (pc := 89) C dX6_read_89 1 rfl ?_
                refine jw_get (pc := 90) C hi_X6_read_X6 0 rfl rfl 14 (by decide) fl_X6_read_34 rfl rfl dX6_read_90 ?_
                refine jw_iload_n (pc := 93) C dX6_read_93 0 rfl ?_
                refine jw_bald (pc := 94) C (f := P) 1 (k + 2) rfl rfl (by omega) (by decide) dX6_read_94 ?_
                have r_94 := hP (k + 2) (by omega)
                refine jw_bipush (pc := 95) C dX6_read_95 (by decide +kernel) ?_
                refine jw_icmp_ne (pc := 97) (tgt := 116) C dX6_read_97 (by decide) (by omega) (by omega) (fun c_97 => ?_) (fun c_97 => ?_)
                · -- 97 t
                  refine jw_iload_n (pc := 116) C dX6_read_116 0 rfl ?_
                  refine jw_aload_n (pc := 117) C dX6_read_117 1 rfl ?_
                  refine jw_get (pc := 118) C hi_X6_read_X6 0 rfl rfl 13 (by decide) fl_X6_read_66 rfl rfl dX6_read_118 ?_
                  refine jw_icmp_eq (pc := 121) (tgt := 143) C dX6_read_121 (by decide) (by omega) (by omega) (fun c_121 => ?_) (fun c_121 => ?_)
                  · -- 121 t
                    have hrd := sp_rd1 (q := k + 2) (P := P) (n := pl) (by omega) hsh2 (fun y b1 b2 => by have := hcm y (by omega) (by omega); omega) (by first | (exact Or.inl (by omega)) | (exact Or.inr (fun q => by have q2 := sp_sh_iff.mp q; omega)))
                    refine jw_iload_n (pc := 143) C dX6_read_143 0 rfl ?_
                    exact jw_iretW (pc := 144) C E dX6_read_144 ((((x + 1 : Nat) : Int), 0)) (by rw [hrd.1]) (fun q => absurd q hrd.2) (by rw [jb_f hrd.2])
                  · -- 121 f
                    refine jw_aload_n (pc := 124) C dX6_read_124 1 rfl ?_
                    refine jw_get (pc := 125) C hi_X6_read_X6 0 rfl rfl 16 (by decide) fl_X6_read_81 rfl rfl dX6_read_125 ?_
                    refine jw_iconst (pc := 128) C dX6_read_128 ?_
                    refine jw_icmp_eq (pc := 129) (tgt := 143) C dX6_read_129 (by decide) (by omega) (by omega) (fun c_129 => ?_) (fun c_129 => ?_)
                    · -- 129 t
                      have hrd := sp_rd1 (q := k + 2) (P := P) (n := pl) (by omega) hsh2 (fun y b1 b2 => by have := hcm y (by omega) (by omega); omega) (by first | (exact Or.inl (by omega)) | (exact Or.inr (fun q => by have q2 := sp_sh_iff.mp q; omega)))
                      refine jw_iload_n (pc := 143) C dX6_read_143 0 rfl ?_
                      exact jw_iretW (pc := 144) C E dX6_read_144 ((((x + 1 : Nat) : Int), 0)) (by rw [hrd.1]) (fun q => absurd q hrd.2) (by rw [jb_f hrd.2])
                    · -- 129 f
                      refine jw_aload_n (pc := 132) C dX6_read_132 1 rfl ?_
                      refine jw_get (pc := 133) C hi_X6_read_X6 0 rfl rfl 14 (by decide) fl_X6_read_34 rfl rfl dX6_read_133 ?_
                      refine jw_iload_n (pc := 136) C dX6_read_136 0 rfl ?_
                      refine jw_bald (pc := 137) C (f := P) 1 (k + 2) rfl rfl (by omega) (by decide) dX6_read_137 ?_
                      have r_137 := hP (k + 2) (by omega)
                      refine jw_bipush (pc := 138) C dX6_read_138 (by decide +kernel) ?_
                      refine jw_icmp_eq (pc := 140) (tgt := 145) C dX6_read_140 (by decide) (by omega) (by omega) (fun c_140 => ?_) (fun c_140 => ?_)
                      · -- 140 t
                        refine jw_iinc (pc := 145) (z := ((k + 2 + 1 : Nat) : Int)) (lv' := [(1, .int (jI ((k + 2 + 1 : Nat) : Int))), (0, .ref g)]) C dX6_read_145 0 rfl (by omega) (by decide) rfl ?_
                        refine jw_goto (pc := 148) (tgt := 17) C dX6_read_148 (by decide) ?_
                        refine jw_lv [1, 0] rfl ?_
                        exact ih_2 (k + 2 + 1) (x + 1) (by omega) (by omega) (by omega) (fun j hj => by
                              by_cases e1 : j < k
                              · exact hsh j e1
                              · have f2 := sp_fg_d (P := P) (n := pl) (k := k + 1) (by omega)
                                have ej : j = k ∨ j = k + 1 ∨ j = k + 2 := by omega
                                rcases ej with rfl | rfl | rfl
                                · exact sp_sh_iff.mpr (by omega)
                                · exact sp_sh_iff.mpr (by omega)
                                · exact sp_sh_iff.mpr (by omega)) (fun y b1 b2 => by
                              by_cases e1 : y ≤ x
                              · exact hcm y b1 e1
                              · rw [show 3 * y - 1 = k + 2 by omega]; omega) (by omega)
                      · -- 140 f
                        have hrd := sp_rd1 (q := k + 2) (P := P) (n := pl) (by omega) hsh2 (fun y b1 b2 => by have := hcm y (by omega) (by omega); omega) (by first | (exact Or.inl (by omega)) | (exact Or.inr (fun q => by have q2 := sp_sh_iff.mp q; omega)))
                        refine jw_iload_n (pc := 143) C dX6_read_143 0 rfl ?_
                        exact jw_iretW (pc := 144) C E dX6_read_144 ((((x + 1 : Nat) : Int), 0)) (by rw [hrd.1]) (fun q => absurd q hrd.2) (by rw [jb_f hrd.2])
                · -- 97 f
                  refine jw_aload_n (pc := 100) C dX6_read_100 1 rfl ?_
                  refine jw_get (pc := 101) C hi_X6_read_X6 0 rfl rfl 16 (by decide) fl_X6_read_81 rfl rfl dX6_read_101 ?_
                  refine jw_iconst (pc := 104) C dX6_read_104 ?_
                  refine jw_icmp_le (pc := 105) (tgt := 116) C dX6_read_105 (by decide) (by omega) (by omega) (fun c_105 => ?_) (fun c_105 => ?_)
                  · -- 105 t
                    refine jw_iload_n (pc := 116) C dX6_read_116 0 rfl ?_
                    refine jw_aload_n (pc := 117) C dX6_read_117 1 rfl ?_
                    refine jw_get (pc := 118) C hi_X6_read_X6 0 rfl rfl 13 (by decide) fl_X6_read_66 rfl rfl dX6_read_118 ?_
                    refine jw_icmp_eq (pc := 121) (tgt := 143) C dX6_read_121 (by decide) (by omega) (by omega) (fun c_121 => ?_) (fun c_121 => ?_)
                    · -- 121 t
                      have hrd := sp_rd1 (q := k + 2) (P := P) (n := pl) (by omega) hsh2 (fun y b1 b2 => by have := hcm y (by omega) (by omega); omega) (by first | (exact Or.inl (by omega)) | (exact Or.inr (fun q => by have q2 := sp_sh_iff.mp q; omega)))
                      refine jw_iload_n (pc := 143) C dX6_read_143 0 rfl ?_
                      exact jw_iretW (pc := 144) C E dX6_read_144 ((((x + 1 : Nat) : Int), 0)) (by rw [hrd.1]) (fun q => absurd q hrd.2) (by rw [jb_f hrd.2])
                    · -- 121 f
                      refine jw_aload_n (pc := 124) C dX6_read_124 1 rfl ?_
                      refine jw_get (pc := 125) C hi_X6_read_X6 0 rfl rfl 16 (by decide) fl_X6_read_81 rfl rfl dX6_read_125 ?_
                      refine jw_iconst (pc := 128) C dX6_read_128 ?_
                      refine jw_icmp_eq (pc := 129) (tgt := 143) C dX6_read_129 (by decide) (by omega) (by omega) (fun c_129 => ?_) (fun c_129 => ?_)
                      · -- 129 t
                        have hrd := sp_rd1 (q := k + 2) (P := P) (n := pl) (by omega) hsh2 (fun y b1 b2 => by have := hcm y (by omega) (by omega); omega) (by first | (exact Or.inl (by omega)) | (exact Or.inr (fun q => by have q2 := sp_sh_iff.mp q; omega)))
                        refine jw_iload_n (pc := 143) C dX6_read_143 0 rfl ?_
                        exact jw_iretW (pc := 144) C E dX6_read_144 ((((x + 1 : Nat) : Int), 0)) (by rw [hrd.1]) (fun q => absurd q hrd.2) (by rw [jb_f hrd.2])
                      · -- 129 f
                        refine jw_aload_n (pc := 132) C dX6_read_132 1 rfl ?_
                        refine jw_get (pc := 133) C hi_X6_read_X6 0 rfl rfl 14 (by decide) fl_X6_read_34 rfl rfl dX6_read_133 ?_
                        refine jw_iload_n (pc := 136) C dX6_read_136 0 rfl ?_
                        refine jw_bald (pc := 137) C (f := P) 1 (k + 2) rfl rfl (by omega) (by decide) dX6_read_137 ?_
                        have r_137 := hP (k + 2) (by omega)
                        refine jw_bipush (pc := 138) C dX6_read_138 (by decide +kernel) ?_
                        refine jw_icmp_eq (pc := 140) (tgt := 145) C dX6_read_140 (by decide) (by omega) (by omega) (fun c_140 => ?_) (fun c_140 => ?_)
                        · -- 140 t
                          refine jw_iinc (pc := 145) (z := ((k + 2 + 1 : Nat) : Int)) (lv' := [(1, .int (jI ((k + 2 + 1 : Nat) : Int))), (0, .ref g)]) C dX6_read_145 0 rfl (by omega) (by decide) rfl ?_
                          refine jw_goto (pc := 148) (tgt := 17) C dX6_read_148 (by decide) ?_
                          refine jw_lv [1, 0] rfl ?_
                          exact ih_2 (k + 2 + 1) (x + 1) (by omega) (by omega) (by omega) (fun j hj => by
                                by_cases e1 : j < k
                                · exact hsh j e1
                                · have f2 := sp_fg_d (P := P) (n := pl) (k := k + 1) (by omega)
                                  have ej : j = k ∨ j = k + 1 ∨ j = k + 2 := by omega
                                  rcases ej with rfl | rfl | rfl
                                  · exact sp_sh_iff.mpr (by omega)
                                  · exact sp_sh_iff.mpr (by omega)
                                  · exact sp_sh_iff.mpr (by omega)) (fun y b1 b2 => by
                                by_cases e1 : y ≤ x
                                · exact hcm y b1 e1
                                · rw [show 3 * y - 1 = k + 2 by omega]; omega) (by omega)
                        · -- 140 f
                          have hrd := sp_rd1 (q := k + 2) (P := P) (n := pl) (by omega) hsh2 (fun y b1 b2 => by have := hcm y (by omega) (by omega); omega) (by first | (exact Or.inl (by omega)) | (exact Or.inr (fun q => by have q2 := sp_sh_iff.mp q; omega)))
                          refine jw_iload_n (pc := 143) C dX6_read_143 0 rfl ?_
                          exact jw_iretW (pc := 144) C E dX6_read_144 ((((x + 1 : Nat) : Int), 0)) (by rw [hrd.1]) (fun q => absurd q hrd.2) (by rw [jb_f hrd.2])
                  · -- 105 f
                    have hxs : sp_hs P pl = ((x + 1 : Nat) : Int) := sp_hs_x (by omega) (by omega) (by rw [show 3 * (x + 1) - 1 = k + 2 by omega]; omega) (fun y b1 b2 => by have := hcm y (by omega) (by omega); omega)
                    have hsh : ∀ j, j < 3 * (x + 1) → sp_sh j (P j) = true := fun j hj => by
                        by_cases e1 : j < k + 2
                        · exact hsh2 j e1
                        · rw [show j = k + 2 by omega]; exact sp_sh_iff.mpr (by omega)
                    have hhn := (sp_sn_x hxs).1
                    refine jw_aload_n (pc := 108) C dX6_read_108 1 rfl ?_
                    refine jw_iload_n (pc := 109) C dX6_read_109 0 rfl ?_
                    refine jw_iconst (pc := 110) C dX6_read_110 ?_
                    refine jw_iadd (pc := 111) (z := ((k + 2 + 1 : Nat) : Int)) C dX6_read_111 (by omega) ?_
                    refine jw_callWV (pc := 112) C [.int (jI (((k + 2 + 1) : Nat) : Int))] [] 1 (con_X6_readStrokes lau D cI cB g co nh qk qv ns qh ql ch hd q9 q10 q11 q12 pl qp 0 (((x + 1 : Nat) : Int)) th sd qs ik kc ks kg kh k26 k27 k28 k29 k30 k31 k32 hx P (k + 2 + 1) ((x + 1)) (by omega) hP (by omega) (by omega) (by omega) hxs hsh) gX6_read_X6_readStrokes rfl rfl rfl (by decide +kernel) ⟨Nat.le_of_ble_eq_true rfl, Nat.le_of_ble_eq_true rfl⟩ 0 rfl rfl [0, 1] [] [0, 1] (wr := []) rfl rfl (by decide) (by decide) (fun _ => rfl) (wN := fun u_112_3 => [oM g co ((nh : Nat) : Int) qk qv ((ns : Nat) : Int) qh ql ch ((hd : Nat) : Int) q9 q10 q11 q12 ((pl : Nat) : Int) qp (jb (sp_whole P pl = true)) ((((x + 1 : Nat) : Int))) u_112_3 ((th : Nat) : Int) sd qs ik kc ((ks : Nat) : Int) kg ((kh : Nat) : Int) k26 k27 k28 k29 k30 k31 k32 hx, aI cB qp 25 P]) (fun _ => rfl) (stN := fun u_112_3 => [.int (jI ((sp_fault P pl : Nat) : Int))]) (fun _ => rfl) rfl (Nat.le_of_ble_eq_true rfl) rfl dX6_read_112 (fun u_112_3 hu_112_3 => ?_)
                    (try dsimp only at hu_112_3)
                    have hpost := hu_112_3
                    exact jw_iretW (pc := 115) C E dX6_read_115 ((((((x + 1 : Nat) : Int))), u_112_3)) rfl (fun q => ⟨by rw [hhn], hpost q⟩) rfl
            · -- 61 f
              have hrd := sp_rd1 (q := k + 1) (P := P) (n := pl) (by omega) (fun j hj => by
                    by_cases e1 : j < k
                    · exact hsh j e1
                    · rw [show j = k by omega]; exact sp_sh_iff.mpr (by omega)) (fun y b1 b2 => by have := hcm y (by omega) (by omega); omega) (by
                    rcases Nat.lt_or_ge (k + 1) pl with g1 | g1
                    · exact Or.inr (fun q => by have q2 := sp_sh_iff.mp q; have q3 := sp_fg_in (P := P) g1; omega)
                    · exact Or.inl (by omega))
              refine jw_iload_n (pc := 64) C dX6_read_64 1 rfl ?_
              refine jw_iconst (pc := 65) C dX6_read_65 ?_
              refine jw_iadd (pc := 66) (z := ((k + 1 : Nat) : Int)) C dX6_read_66 (by omega) ?_
              exact jw_iretW (pc := 67) C E dX6_read_67 ((((x : Nat) : Int), 0)) (by rw [hrd.1]) (fun q => absurd q hrd.2) (by rw [jb_f hrd.2])
          · -- 43 f
            have hrd := sp_rd1 (q := k) (P := P) (n := pl) (by omega) hsh (fun y b1 b2 => by have := hcm y (by omega) (by omega); omega) (by first | (exact Or.inl (by omega)) | (exact Or.inr (fun q => by have q2 := sp_sh_iff.mp q; omega)))
            refine jw_iload_n (pc := 46) C dX6_read_46 1 rfl ?_
            exact jw_iretW (pc := 47) C E dX6_read_47 ((((x : Nat) : Int), 0)) (by rw [hrd.1]) (fun q => absurd q hrd.2) (by rw [jb_f hrd.2])
  refine jw_lv [1, 0] rfl ?_
  exact lp_17_1 ((5 - 0) + 1) 0 0 (by omega) (by omega) (by omega) (fun j hj => absurd hj (Nat.not_lt_zero _)) (fun y b1 b2 => absurd b2 (by omega)) (Nat.lt_succ_self _)
