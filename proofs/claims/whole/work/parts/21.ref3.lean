theorem fl_X6_image_13 : Cond.fieldLink RX6 13 "GongTideModel" "levelOf" "[I" ∈ wsX6_image := by decide +kernel
theorem fl_X6_image_16 : Cond.fieldLink RX6 16 "GongTideModel" "hourOf" "[I" ∈ wsX6_image := by decide +kernel
theorem fl_X6_image_19 : Cond.fieldLink RX6 19 "GongTideModel" "loudOf" "[I" ∈ wsX6_image := by decide +kernel
theorem fl_X6_image_22 : Cond.fieldLink RX6 22 "GongTideModel" "heardHouse" "[I" ∈ wsX6_image := by decide +kernel
theorem fl_X6_image_25 : Cond.fieldLink RX6 25 "GongTideModel" "heardHour" "[I" ∈ wsX6_image := by decide +kernel
theorem fl_X6_image_28 : Cond.fieldLink RX6 28 "GongTideModel" "heardLoud" "[I" ∈ wsX6_image := by decide +kernel
theorem fl_X6_image_31 : Cond.fieldLink RX6 31 "GongTideModel" "heardHow" "[I" ∈ wsX6_image := by decide +kernel
theorem fl_X6_image_41 : Cond.fieldLink RX6 41 "GongTideModel" "keptLevel" "[I" ∈ wsX6_image := by decide +kernel
theorem fl_X6_image_44 : Cond.fieldLink RX6 44 "GongTideModel" "keptHour" "[I" ∈ wsX6_image := by decide +kernel
theorem fl_X6_image_47 : Cond.fieldLink RX6 47 "GongTideModel" "keptLoud" "[I" ∈ wsX6_image := by decide +kernel
theorem fl_X6_image_50 : Cond.fieldLink RX6 50 "GongTideModel" "keptHouse" "[I" ∈ wsX6_image := by decide +kernel
theorem fl_X6_image_53 : Cond.fieldLink RX6 53 "GongTideModel" "keptHeardHour" "[I" ∈ wsX6_image := by decide +kernel
theorem fl_X6_image_56 : Cond.fieldLink RX6 56 "GongTideModel" "keptHeardLoud" "[I" ∈ wsX6_image := by decide +kernel
theorem fl_X6_image_59 : Cond.fieldLink RX6 59 "GongTideModel" "keptHow" "[I" ∈ wsX6_image := by decide +kernel
theorem fl_X6_image_94 : Cond.fieldLink RX6 94 "GongTideModel" "houses" "I" ∈ wsX6_image := by decide +kernel
theorem fl_X6_image_97 : Cond.fieldLink RX6 97 "GongTideModel" "strokes" "I" ∈ wsX6_image := by decide +kernel
theorem fl_X6_image_100 : Cond.fieldLink RX6 100 "GongTideModel" "colonies" "I" ∈ wsX6_image := by decide +kernel
theorem fl_X6_image_103 : Cond.fieldLink RX6 103 "GongTideModel" "changes" "I" ∈ wsX6_image := by decide +kernel
theorem fl_X6_image_106 : Cond.fieldLink RX6 106 "GongTideModel" "heard" "I" ∈ wsX6_image := by decide +kernel
theorem fl_X6_image_202 : Cond.fieldLink RX6 202 "GongTideModel" "isKept" "Z" ∈ wsX6_image := by decide +kernel
theorem fl_X6_image_205 : Cond.fieldLink RX6 205 "GongTideModel" "keptColony" "I" ∈ wsX6_image := by decide +kernel
theorem fl_X6_image_208 : Cond.fieldLink RX6 208 "GongTideModel" "keptStrokes" "I" ∈ wsX6_image := by decide +kernel
theorem fl_X6_image_211 : Cond.fieldLink RX6 211 "GongTideModel" "keptChanges" "I" ∈ wsX6_image := by decide +kernel
theorem fl_X6_image_214 : Cond.fieldLink RX6 214 "GongTideModel" "keptHeard" "I" ∈ wsX6_image := by decide +kernel
theorem hi_X6_image_X6 : ∀ w ∈ wsX60, w ∈ wsX6_image := fun w h => List.mem_cons_of_mem _ (List.mem_append_right _ h)
def rmX6_image : Room := { frames := 0, cells := 0, slots := 0, locals := 0 }
set_option maxHeartbeats 4000000 in
set_option maxRecDepth 100000 in
theorem con_X6_image (lau : Launch) (D : va_G) (cI cB : ClassId) (g : Nat) (co : Int) (nh : Nat) (qk : Nat) (qv : Nat) (ns : Nat) (qh : Nat) (ql : Nat) (ch : Int) (hd : Nat) (q9 : Nat) (q10 : Nat) (q11 : Nat) (q12 : Nat) (pl : Nat) (qp : Nat) (iw : Int) (nw : Int) (nz : Int) (th : Nat) (sd : Int64) (qs : Nat) (ik : Int) (kc : Int) (ks : Nat) (kg : Int) (kh : Nat) (k26 : Nat) (k27 : Nat) (k28 : Nat) (k29 : Nat) (k30 : Nat) (k31 : Nat) (k32 : Nat) (hx : Int64) (V : Nat → Int) (SH : Nat → Int) (SL : Nat → Int) (HH : Nat → Int) (HO : Nat → Int) (HL : Nat → Int) (HW : Nat → Int) (KV : Nat → Int) (KSH : Nat → Int) (KSL : Nat → Int) (KHH : Nat → Int) (KHO : Nat → Int) (KHL : Nat → Int) (KHW : Nat → Int) (hnh : nh ≤ 5) (h0 : 0 < nh) : jMW (S := Unit) lau yX6_image wsX6_image rmX6_image D cI cB [.ref g] [oM g co ((nh : Nat) : Int) qk qv ((ns : Nat) : Int) qh ql ch ((hd : Nat) : Int) q9 q10 q11 q12 ((pl : Nat) : Int) qp iw nw nz ((th : Nat) : Int) sd qs ik kc ((ks : Nat) : Int) kg ((kh : Nat) : Int) k26 k27 k28 k29 k30 k31 k32 hx, aI cI qv 5 V, aI cI qh 7 SH, aI cI ql 7 SL, aI cI q9 6 HH, aI cI q10 6 HO, aI cI q11 6 HL, aI cI q12 6 HW, aI cI k26 5 KV, aI cI k27 6 KSH, aI cI k28 6 KSL, aI cI k29 6 KHH, aI cI k30 6 KHO, aI cI k31 6 KHL, aI cI k32 6 KHW] (fun u => some (.int (jI ch))) (fun u => True) (fun u => [oM g co ((nh : Nat) : Int) qk qv ((ns : Nat) : Int) qh ql ch ((hd : Nat) : Int) q9 q10 q11 q12 ((pl : Nat) : Int) qp iw nw nz ((th : Nat) : Int) sd qs 1 co ((ns : Nat) : Int) ch ((hd : Nat) : Int) k26 k27 k28 k29 k30 k31 k32 hx, aI cI qv 5 V, aI cI qh 7 SH, aI cI ql 7 SL, aI cI q9 6 HH, aI cI q10 6 HO, aI cI q11 6 HL, aI cI q12 6 HW, aI cI k26 5 V, aI cI k27 6 SH, aI cI k28 6 SL, aI cI k29 6 HH, aI cI k30 6 HO, aI cI k31 6 HL, aI cI k32 6 HW]) := by
  refine jMW.of (own := RX6) (cc := cX6_image) (maxL := 2) (ret := (some .int)) rfl (by decide) rfl (Nat.le_of_ble_eq_true rfl) ?_
  intro X C E
  refine jw_lv (lv' := [(0, .ref g)]) [0] rfl ?_
  refine jw_aload_n (pc := 0) C dX6_image_0 0 rfl ?_
  refine jw_get (pc := 1) C hi_X6_image_X6 0 rfl rfl 1 (by decide) fl_X6_image_94 rfl rfl dX6_image_1 ?_
  refine jw_if_ne (pc := 4) (tgt := 10) C dX6_image_4 (by decide) (by omega) (fun c_4 => ?_) (fun c_4 => ?_)
  · -- 4 t
    refine jw_aload_n (pc := 10) C dX6_image_10 0 rfl ?_
    refine jw_iconst (pc := 11) C dX6_image_11 ?_
    refine jw_put (pc := 12) (ty := .boolean) (ws' := [oM g co ((nh : Nat) : Int) qk qv ((ns : Nat) : Int) qh ql ch ((hd : Nat) : Int) q9 q10 q11 q12 ((pl : Nat) : Int) qp iw nw nz ((th : Nat) : Int) sd qs 1 kc ((ks : Nat) : Int) kg ((kh : Nat) : Int) k26 k27 k28 k29 k30 k31 k32 hx, aI cI qv 5 V, aI cI qh 7 SH, aI cI ql 7 SL, aI cI q9 6 HH, aI cI q10 6 HO, aI cI q11 6 HL, aI cI q12 6 HW, aI cI k26 5 KV, aI cI k27 6 KSH, aI cI k28 6 KSL, aI cI k29 6 KHH, aI cI k30 6 KHO, aI cI k31 6 KHL, aI cI k32 6 KHW]) C hi_X6_image_X6 tyX6 tyX6_ok nmX6 0 rfl rfl 21 (by decide) fl_X6_image_202 rfl rfl (by decide +kernel) rfl rfl (Nat.le_of_ble_eq_true rfl) rfl dX6_image_12 ?_
    refine jw_aload_n (pc := 15) C dX6_image_15 0 rfl ?_
    refine jw_aload_n (pc := 16) C dX6_image_16 0 rfl ?_
    refine jw_get (pc := 17) C hi_X6_image_X6 0 rfl rfl 0 (by decide) fl_X6_image_100 rfl rfl dX6_image_17 ?_
    refine jw_put (pc := 20) (ty := .int) (ws' := [oM g co ((nh : Nat) : Int) qk qv ((ns : Nat) : Int) qh ql ch ((hd : Nat) : Int) q9 q10 q11 q12 ((pl : Nat) : Int) qp iw nw nz ((th : Nat) : Int) sd qs 1 co ((ks : Nat) : Int) kg ((kh : Nat) : Int) k26 k27 k28 k29 k30 k31 k32 hx, aI cI qv 5 V, aI cI qh 7 SH, aI cI ql 7 SL, aI cI q9 6 HH, aI cI q10 6 HO, aI cI q11 6 HL, aI cI q12 6 HW, aI cI k26 5 KV, aI cI k27 6 KSH, aI cI k28 6 KSL, aI cI k29 6 KHH, aI cI k30 6 KHO, aI cI k31 6 KHL, aI cI k32 6 KHW]) C hi_X6_image_X6 tyX6 tyX6_ok nmX6 0 rfl rfl 22 (by decide) fl_X6_image_205 rfl rfl (by decide +kernel) rfl rfl (Nat.le_of_ble_eq_true rfl) rfl dX6_image_20 ?_
    refine jw_aload_n (pc := 23) C dX6_image_23 0 rfl ?_
    refine jw_aload_n (pc := 24) C dX6_image_24 0 rfl ?_
    refine jw_get (pc := 25) C hi_X6_image_X6 0 rfl rfl 4 (by decide) fl_X6_image_97 rfl rfl dX6_image_25 ?_
    refine jw_put (pc := 28) (ty := .int) (ws' := [oM g co ((nh : Nat) : Int) qk qv ((ns : Nat) : Int) qh ql ch ((hd : Nat) : Int) q9 q10 q11 q12 ((pl : Nat) : Int) qp iw nw nz ((th : Nat) : Int) sd qs 1 co ((ns : Nat) : Int) kg ((kh : Nat) : Int) k26 k27 k28 k29 k30 k31 k32 hx, aI cI qv 5 V, aI cI qh 7 SH, aI cI ql 7 SL, aI cI q9 6 HH, aI cI q10 6 HO, aI cI q11 6 HL, aI cI q12 6 HW, aI cI k26 5 KV, aI cI k27 6 KSH, aI cI k28 6 KSL, aI cI k29 6 KHH, aI cI k30 6 KHO, aI cI k31 6 KHL, aI cI k32 6 KHW]) C hi_X6_image_X6 tyX6 tyX6_ok nmX6 0 rfl rfl 23 (by decide) fl_X6_image_208 rfl rfl (by decide +kernel) rfl rfl (Nat.le_of_ble_eq_true rfl) rfl dX6_image_28 ?_
    refine jw_aload_n (pc := 31) C dX6_image_31 0 rfl ?_
    refine jw_aload_n (pc := 32) C dX6_image_32 0 rfl ?_
    refine jw_get (pc := 33) C hi_X6_image_X6 0 rfl rfl 7 (by decide) fl_X6_image_103 rfl rfl dX6_image_33 ?_
    refine jw_put (pc := 36) (ty := .int) (ws' := [oM g co ((nh : Nat) : Int) qk qv ((ns : Nat) : Int) qh ql ch ((hd : Nat) : Int) q9 q10 q11 q12 ((pl : Nat) : Int) qp iw nw nz ((th : Nat) : Int) sd qs 1 co ((ns : Nat) : Int) ch ((kh : Nat) : Int) k26 k27 k28 k29 k30 k31 k32 hx, aI cI qv 5 V, aI cI qh 7 SH, aI cI ql 7 SL, aI cI q9 6 HH, aI cI q10 6 HO, aI cI q11 6 HL, aI cI q12 6 HW, aI cI k26 5 KV, aI cI k27 6 KSH, aI cI k28 6 KSL, aI cI k29 6 KHH, aI cI k30 6 KHO, aI cI k31 6 KHL, aI cI k32 6 KHW]) C hi_X6_image_X6 tyX6 tyX6_ok nmX6 0 rfl rfl 24 (by decide) fl_X6_image_211 rfl rfl (by decide +kernel) rfl rfl (Nat.le_of_ble_eq_true rfl) rfl dX6_image_36 ?_
    refine jw_aload_n (pc := 39) C dX6_image_39 0 rfl ?_
    refine jw_aload_n (pc := 40) C dX6_image_40 0 rfl ?_
    refine jw_get (pc := 41) C hi_X6_image_X6 0 rfl rfl 8 (by decide) fl_X6_image_106 rfl rfl dX6_image_41 ?_
    refine jw_put (pc := 44) (ty := .int) (ws' := [oM g co ((nh : Nat) : Int) qk qv ((ns : Nat) : Int) qh ql ch ((hd : Nat) : Int) q9 q10 q11 q12 ((pl : Nat) : Int) qp iw nw nz ((th : Nat) : Int) sd qs 1 co ((ns : Nat) : Int) ch ((hd : Nat) : Int) k26 k27 k28 k29 k30 k31 k32 hx, aI cI qv 5 V, aI cI qh 7 SH, aI cI ql 7 SL, aI cI q9 6 HH, aI cI q10 6 HO, aI cI q11 6 HL, aI cI q12 6 HW, aI cI k26 5 KV, aI cI k27 6 KSH, aI cI k28 6 KSL, aI cI k29 6 KHH, aI cI k30 6 KHO, aI cI k31 6 KHL, aI cI k32 6 KHW]) C hi_X6_image_X6 tyX6 tyX6_ok nmX6 0 rfl rfl 25 (by decide) fl_X6_image_214 rfl rfl (by decide +kernel) rfl rfl (Nat.le_of_ble_eq_true rfl) rfl dX6_image_44 ?_
    refine jw_iconst (pc := 47) C dX6_image_47 ?_
    refine jw_istore_n (pc := 48) (lv' := [(1, .int (jI 0)), (0, .ref g)]) C dX6_image_48 (by decide) rfl ?_
    have lp_49_1 : ∀ (fu : Nat) (i5 : Nat) (c0 : Nat → Int), (i5 ≤ 5) → (∀ y, y < i5 → c0 y = V y) → 5 - i5 < fu → jW X 49 [(0, .ref g), (1, .int (jI ((i5 : Nat) : Int)))] [] [oM g co ((nh : Nat) : Int) qk qv ((ns : Nat) : Int) qh ql ch ((hd : Nat) : Int) q9 q10 q11 q12 ((pl : Nat) : Int) qp iw nw nz ((th : Nat) : Int) sd qs 1 co ((ns : Nat) : Int) ch ((hd : Nat) : Int) k26 k27 k28 k29 k30 k31 k32 hx, aI cI qv 5 V, aI cI qh 7 SH, aI cI ql 7 SL, aI cI q9 6 HH, aI cI q10 6 HO, aI cI q11 6 HL, aI cI q12 6 HW, aI cI k26 5 c0, aI cI k27 6 KSH, aI cI k28 6 KSL, aI cI k29 6 KHH, aI cI k30 6 KHO, aI cI k31 6 KHL, aI cI k32 6 KHW] := by
      intro fu
      induction fu with
      | zero => intro i5 c0 hi5 hc0 hm; exact absurd hm (Nat.not_lt_zero _)
      | succ fu ih_2 =>
        intro i5 c0 hi5 hc0 hm
        refine jw_iload_n (pc := 49) C dX6_image_49 1 rfl ?_
        refine jw_iconst (pc := 50) C dX6_image_50 ?_
        refine jw_icmp_ge (pc := 51) (tgt := 72) C dX6_image_51 (by decide) (by omega) (by omega) (fun c_51 => ?_) (fun c_51 => ?_)
        · -- 51 t
          refine jw_arr (f := c0) (g := V) (ws' := [oM g co ((nh : Nat) : Int) qk qv ((ns : Nat) : Int) qh ql ch ((hd : Nat) : Int) q9 q10 q11 q12 ((pl : Nat) : Int) qp iw nw nz ((th : Nat) : Int) sd qs 1 co ((ns : Nat) : Int) ch ((hd : Nat) : Int) k26 k27 k28 k29 k30 k31 k32 hx, aI cI qv 5 V, aI cI qh 7 SH, aI cI ql 7 SL, aI cI q9 6 HH, aI cI q10 6 HO, aI cI q11 6 HL, aI cI q12 6 HW, aI cI k26 5 V, aI cI k27 6 KSH, aI cI k28 6 KSL, aI cI k29 6 KHH, aI cI k30 6 KHO, aI cI k31 6 KHL, aI cI k32 6 KHW]) 8 rfl (by exact fun y hy => hc0 y (by omega)) rfl ?_
          refine jw_iconst (pc := 72) C dX6_image_72 ?_
          refine jw_istore_n (pc := 73) (lv' := [(1, .int (jI 0)), (0, .ref g)]) C dX6_image_73 (by decide) rfl ?_
          have lp_74_3 : ∀ (fu : Nat) (i : Nat) (c1 : Nat → Int) (c2 : Nat → Int) (c3 : Nat → Int) (c4 : Nat → Int) (c5 : Nat → Int) (c6 : Nat → Int), (i ≤ 6) → (∀ y, y < i → c1 y = SH y) → (∀ y, y < i → c2 y = SL y) → (∀ y, y < i → c3 y = HH y) → (∀ y, y < i → c4 y = HO y) → (∀ y, y < i → c5 y = HL y) → (∀ y, y < i → c6 y = HW y) → 6 - i < fu → jW X 74 [(0, .ref g), (1, .int (jI ((i : Nat) : Int)))] [] [oM g co ((nh : Nat) : Int) qk qv ((ns : Nat) : Int) qh ql ch ((hd : Nat) : Int) q9 q10 q11 q12 ((pl : Nat) : Int) qp iw nw nz ((th : Nat) : Int) sd qs 1 co ((ns : Nat) : Int) ch ((hd : Nat) : Int) k26 k27 k28 k29 k30 k31 k32 hx, aI cI qv 5 V, aI cI qh 7 SH, aI cI ql 7 SL, aI cI q9 6 HH, aI cI q10 6 HO, aI cI q11 6 HL, aI cI q12 6 HW, aI cI k26 5 V, aI cI k27 6 c1, aI cI k28 6 c2, aI cI k29 6 c3, aI cI k30 6 c4, aI cI k31 6 c5, aI cI k32 6 c6] := by
            intro fu
            induction fu with
            | zero => intro i c1 c2 c3 c4 c5 c6 hi hc1 hc2 hc3 hc4 hc5 hc6 hm; exact absurd hm (Nat.not_lt_zero _)
            | succ fu ih_4 =>
              intro i c1 c2 c3 c4 c5 c6 hi hc1 hc2 hc3 hc4 hc5 hc6 hm
              refine jw_iload_n (pc := 74) C dX6_image_74 1 rfl ?_
              refine jw_bipush (pc := 75) C dX6_image_75 (by decide +kernel) ?_
              refine jw_icmp_ge (pc := 77) (tgt := 158) C dX6_image_77 (by decide) (by omega) (by omega) (fun c_77 => ?_) (fun c_77 => ?_)
              · -- 77 t
                refine jw_arr (f := c1) (g := SH) (ws' := [oM g co ((nh : Nat) : Int) qk qv ((ns : Nat) : Int) qh ql ch ((hd : Nat) : Int) q9 q10 q11 q12 ((pl : Nat) : Int) qp iw nw nz ((th : Nat) : Int) sd qs 1 co ((ns : Nat) : Int) ch ((hd : Nat) : Int) k26 k27 k28 k29 k30 k31 k32 hx, aI cI qv 5 V, aI cI qh 7 SH, aI cI ql 7 SL, aI cI q9 6 HH, aI cI q10 6 HO, aI cI q11 6 HL, aI cI q12 6 HW, aI cI k26 5 V, aI cI k27 6 SH, aI cI k28 6 c2, aI cI k29 6 c3, aI cI k30 6 c4, aI cI k31 6 c5, aI cI k32 6 c6]) 9 rfl (by exact fun y hy => hc1 y (by omega)) rfl ?_
                refine jw_arr (f := c2) (g := SL) (ws' := [oM g co ((nh : Nat) : Int) qk qv ((ns : Nat) : Int) qh ql ch ((hd : Nat) : Int) q9 q10 q11 q12 ((pl : Nat) : Int) qp iw nw nz ((th : Nat) : Int) sd qs 1 co ((ns : Nat) : Int) ch ((hd : Nat) : Int) k26 k27 k28 k29 k30 k31 k32 hx, aI cI qv 5 V, aI cI qh 7 SH, aI cI ql 7 SL, aI cI q9 6 HH, aI cI q10 6 HO, aI cI q11 6 HL, aI cI q12 6 HW, aI cI k26 5 V, aI cI k27 6 SH, aI cI k28 6 SL, aI cI k29 6 c3, aI cI k30 6 c4, aI cI k31 6 c5, aI cI k32 6 c6]) 10 rfl (by exact fun y hy => hc2 y (by omega)) rfl ?_
                refine jw_arr (f := c3) (g := HH) (ws' := [oM g co ((nh : Nat) : Int) qk qv ((ns : Nat) : Int) qh ql ch ((hd : Nat) : Int) q9 q10 q11 q12 ((pl : Nat) : Int) qp iw nw nz ((th : Nat) : Int) sd qs 1 co ((ns : Nat) : Int) ch ((hd : Nat) : Int) k26 k27 k28 k29 k30 k31 k32 hx, aI cI qv 5 V, aI cI qh 7 SH, aI cI ql 7 SL, aI cI q9 6 HH, aI cI q10 6 HO, aI cI q11 6 HL, aI cI q12 6 HW, aI cI k26 5 V, aI cI k27 6 SH, aI cI k28 6 SL, aI cI k29 6 HH, aI cI k30 6 c4, aI cI k31 6 c5, aI cI k32 6 c6]) 11 rfl (by exact fun y hy => hc3 y (by omega)) rfl ?_
                refine jw_arr (f := c4) (g := HO) (ws' := [oM g co ((nh : Nat) : Int) qk qv ((ns : Nat) : Int) qh ql ch ((hd : Nat) : Int) q9 q10 q11 q12 ((pl : Nat) : Int) qp iw nw nz ((th : Nat) : Int) sd qs 1 co ((ns : Nat) : Int) ch ((hd : Nat) : Int) k26 k27 k28 k29 k30 k31 k32 hx, aI cI qv 5 V, aI cI qh 7 SH, aI cI ql 7 SL, aI cI q9 6 HH, aI cI q10 6 HO, aI cI q11 6 HL, aI cI q12 6 HW, aI cI k26 5 V, aI cI k27 6 SH, aI cI k28 6 SL, aI cI k29 6 HH, aI cI k30 6 HO, aI cI k31 6 c5, aI cI k32 6 c6]) 12 rfl (by exact fun y hy => hc4 y (by omega)) rfl ?_
                refine jw_arr (f := c5) (g := HL) (ws' := [oM g co ((nh : Nat) : Int) qk qv ((ns : Nat) : Int) qh ql ch ((hd : Nat) : Int) q9 q10 q11 q12 ((pl : Nat) : Int) qp iw nw nz ((th : Nat) : Int) sd qs 1 co ((ns : Nat) : Int) ch ((hd : Nat) : Int) k26 k27 k28 k29 k30 k31 k32 hx, aI cI qv 5 V, aI cI qh 7 SH, aI cI ql 7 SL, aI cI q9 6 HH, aI cI q10 6 HO, aI cI q11 6 HL, aI cI q12 6 HW, aI cI k26 5 V, aI cI k27 6 SH, aI cI k28 6 SL, aI cI k29 6 HH, aI cI k30 6 HO, aI cI k31 6 HL, aI cI k32 6 c6]) 13 rfl (by exact fun y hy => hc5 y (by omega)) rfl ?_
                refine jw_arr (f := c6) (g := HW) (ws' := [oM g co ((nh : Nat) : Int) qk qv ((ns : Nat) : Int) qh ql ch ((hd : Nat) : Int) q9 q10 q11 q12 ((pl : Nat) : Int) qp iw nw nz ((th : Nat) : Int) sd qs 1 co ((ns : Nat) : Int) ch ((hd : Nat) : Int) k26 k27 k28 k29 k30 k31 k32 hx, aI cI qv 5 V, aI cI qh 7 SH, aI cI ql 7 SL, aI cI q9 6 HH, aI cI q10 6 HO, aI cI q11 6 HL, aI cI q12 6 HW, aI cI k26 5 V, aI cI k27 6 SH, aI cI k28 6 SL, aI cI k29 6 HH, aI cI k30 6 HO, aI cI k31 6 HL, aI cI k32 6 HW]) 14 rfl (by exact fun y hy => hc6 y (by omega)) rfl ?_
                refine jw_aload_n (pc := 158) C dX6_image_158 0 rfl ?_
                refine jw_get (pc := 159) C hi_X6_image_X6 0 rfl rfl 7 (by decide) fl_X6_image_103 rfl rfl dX6_image_159 ?_
                exact jw_iretW (pc := 162) C E dX6_image_162 (()) rfl trivial rfl
              · -- 77 f
                refine jw_aload_n (pc := 80) C dX6_image_80 0 rfl ?_
                refine jw_get (pc := 81) C hi_X6_image_X6 0 rfl rfl 27 (by decide) fl_X6_image_44 rfl rfl dX6_image_81 ?_
                refine jw_iload_n (pc := 84) C dX6_image_84 1 rfl ?_
                refine jw_aload_n (pc := 85) C dX6_image_85 0 rfl ?_
                refine jw_get (pc := 86) C hi_X6_image_X6 0 rfl rfl 5 (by decide) fl_X6_image_16 rfl rfl dX6_image_86 ?_
                refine jw_iload_n (pc := 89) C dX6_image_89 1 rfl ?_
                refine jw_iald (pc := 90) C (f := SH) 2 i rfl rfl (by omega) (by decide) dX6_image_90 ?_
                refine jw_iast (pc := 91) C (f := c1) 9 i rfl rfl (by omega) (by decide) (ws' := [oM g co ((nh : Nat) : Int) qk qv ((ns : Nat) : Int) qh ql ch ((hd : Nat) : Int) q9 q10 q11 q12 ((pl : Nat) : Int) qp iw nw nz ((th : Nat) : Int) sd qs 1 co ((ns : Nat) : Int) ch ((hd : Nat) : Int) k26 k27 k28 k29 k30 k31 k32 hx, aI cI qv 5 V, aI cI qh 7 SH, aI cI ql 7 SL, aI cI q9 6 HH, aI cI q10 6 HO, aI cI q11 6 HL, aI cI q12 6 HW, aI cI k26 5 V, aI cI k27 6 (va_up c1 i (SH i)), aI cI k28 6 c2, aI cI k29 6 c3, aI cI k30 6 c4, aI cI k31 6 c5, aI cI k32 6 c6]) rfl dX6_image_91 ?_
                refine jw_aload_n (pc := 92) C dX6_image_92 0 rfl ?_
                refine jw_get (pc := 93) C hi_X6_image_X6 0 rfl rfl 28 (by decide) fl_X6_image_47 rfl rfl dX6_image_93 ?_
                refine jw_iload_n (pc := 96) C dX6_image_96 1 rfl ?_
                refine jw_aload_n (pc := 97) C dX6_image_97 0 rfl ?_
                refine jw_get (pc := 98) C hi_X6_image_X6 0 rfl rfl 6 (by decide) fl_X6_image_19 rfl rfl dX6_image_98 ?_
                refine jw_iload_n (pc := 101) C dX6_image_101 1 rfl ?_
                refine jw_iald (pc := 102) C (f := SL) 3 i rfl rfl (by omega) (by decide) dX6_image_102 ?_
                refine jw_iast (pc := 103) C (f := c2) 10 i rfl rfl (by omega) (by decide) (ws' := [oM g co ((nh : Nat) : Int) qk qv ((ns : Nat) : Int) qh ql ch ((hd : Nat) : Int) q9 q10 q11 q12 ((pl : Nat) : Int) qp iw nw nz ((th : Nat) : Int) sd qs 1 co ((ns : Nat) : Int) ch ((hd : Nat) : Int) k26 k27 k28 k29 k30 k31 k32 hx, aI cI qv 5 V, aI cI qh 7 SH, aI cI ql 7 SL, aI cI q9 6 HH, aI cI q10 6 HO, aI cI q11 6 HL, aI cI q12 6 HW, aI cI k26 5 V, aI cI k27 6 (va_up c1 i (SH i)), aI cI k28 6 (va_up c2 i (SL i)), aI cI k29 6 c3, aI cI k30 6 c4, aI cI k31 6 c5, aI cI k32 6 c6]) rfl dX6_image_103 ?_
                refine jw_aload_n (pc := 104) C dX6_image_104 0 rfl ?_
                refine jw_get (pc := 105) C hi_X6_image_X6 0 rfl rfl 29 (by decide) fl_X6_image_50 rfl rfl dX6_image_105 ?_
                refine jw_iload_n (pc := 108) C dX6_image_108 1 rfl ?_
                refine jw_aload_n (pc := 109) C dX6_image_109 0 rfl ?_
                refine jw_get (pc := 110) C hi_X6_image_X6 0 rfl rfl 9 (by decide) fl_X6_image_22 rfl rfl dX6_image_110 ?_
                refine jw_iload_n (pc := 113) C dX6_image_113 1 rfl ?_
                refine jw_iald (pc := 114) C (f := HH) 4 i rfl rfl (by omega) (by decide) dX6_image_114 ?_
                refine jw_iast (pc := 115) C (f := c3) 11 i rfl rfl (by omega) (by decide) (ws' := [oM g co ((nh : Nat) : Int) qk qv ((ns : Nat) : Int) qh ql ch ((hd : Nat) : Int) q9 q10 q11 q12 ((pl : Nat) : Int) qp iw nw nz ((th : Nat) : Int) sd qs 1 co ((ns : Nat) : Int) ch ((hd : Nat) : Int) k26 k27 k28 k29 k30 k31 k32 hx, aI cI qv 5 V, aI cI qh 7 SH, aI cI ql 7 SL, aI cI q9 6 HH, aI cI q10 6 HO, aI cI q11 6 HL, aI cI q12 6 HW, aI cI k26 5 V, aI cI k27 6 (va_up c1 i (SH i)), aI cI k28 6 (va_up c2 i (SL i)), aI cI k29 6 (va_up c3 i (HH i)), aI cI k30 6 c4, aI cI k31 6 c5, aI cI k32 6 c6]) rfl dX6_image_115 ?_
                refine jw_aload_n (pc := 116) C dX6_image_116 0 rfl ?_
                refine jw_get (pc := 117) C hi_X6_image_X6 0 rfl rfl 30 (by decide) fl_X6_image_53 rfl rfl dX6_image_117 ?_
                refine jw_iload_n (pc := 120) C dX6_image_120 1 rfl ?_
                refine jw_aload_n (pc := 121) C dX6_image_121 0 rfl ?_
                refine jw_get (pc := 122) C hi_X6_image_X6 0 rfl rfl 10 (by decide) fl_X6_image_25 rfl rfl dX6_image_122 ?_
                refine jw_iload_n (pc := 125) C dX6_image_125 1 rfl ?_
                refine jw_iald (pc := 126) C (f := HO) 5 i rfl rfl (by omega) (by decide) dX6_image_126 ?_
                refine jw_iast (pc := 127) C (f := c4) 12 i rfl rfl (by omega) (by decide) (ws' := [oM g co ((nh : Nat) : Int) qk qv ((ns : Nat) : Int) qh ql ch ((hd : Nat) : Int) q9 q10 q11 q12 ((pl : Nat) : Int) qp iw nw nz ((th : Nat) : Int) sd qs 1 co ((ns : Nat) : Int) ch ((hd : Nat) : Int) k26 k27 k28 k29 k30 k31 k32 hx, aI cI qv 5 V, aI cI qh 7 SH, aI cI ql 7 SL, aI cI q9 6 HH, aI cI q10 6 HO, aI cI q11 6 HL, aI cI q12 6 HW, aI cI k26 5 V, aI cI k27 6 (va_up c1 i (SH i)), aI cI k28 6 (va_up c2 i (SL i)), aI cI k29 6 (va_up c3 i (HH i)), aI cI k30 6 (va_up c4 i (HO i)), aI cI k31 6 c5, aI cI k32 6 c6]) rfl dX6_image_127 ?_
                refine jw_aload_n (pc := 128) C dX6_image_128 0 rfl ?_
                refine jw_get (pc := 129) C hi_X6_image_X6 0 rfl rfl 31 (by decide) fl_X6_image_56 rfl rfl dX6_image_129 ?_
                refine jw_iload_n (pc := 132) C dX6_image_132 1 rfl ?_
                refine jw_aload_n (pc := 133) C dX6_image_133 0 rfl ?_
                refine jw_get (pc := 134) C hi_X6_image_X6 0 rfl rfl 11 (by decide) fl_X6_image_28 rfl rfl dX6_image_134 ?_
                refine jw_iload_n (pc := 137) C dX6_image_137 1 rfl ?_
                refine jw_iald (pc := 138) C (f := HL) 6 i rfl rfl (by omega) (by decide) dX6_image_138 ?_
                refine jw_iast (pc := 139) C (f := c5) 13 i rfl rfl (by omega) (by decide) (ws' := [oM g co ((nh : Nat) : Int) qk qv ((ns : Nat) : Int) qh ql ch ((hd : Nat) : Int) q9 q10 q11 q12 ((pl : Nat) : Int) qp iw nw nz ((th : Nat) : Int) sd qs 1 co ((ns : Nat) : Int) ch ((hd : Nat) : Int) k26 k27 k28 k29 k30 k31 k32 hx, aI cI qv 5 V, aI cI qh 7 SH, aI cI ql 7 SL, aI cI q9 6 HH, aI cI q10 6 HO, aI cI q11 6 HL, aI cI q12 6 HW, aI cI k26 5 V, aI cI k27 6 (va_up c1 i (SH i)), aI cI k28 6 (va_up c2 i (SL i)), aI cI k29 6 (va_up c3 i (HH i)), aI cI k30 6 (va_up c4 i (HO i)), aI cI k31 6 (va_up c5 i (HL i)), aI cI k32 6 c6]) rfl dX6_image_139 ?_
                refine jw_aload_n (pc := 140) C dX6_image_140 0 rfl ?_
                refine jw_get (pc := 141) C hi_X6_image_X6 0 rfl rfl 32 (by decide) fl_X6_image_59 rfl rfl dX6_image_141 ?_
                refine jw_iload_n (pc := 144) C dX6_image_144 1 rfl ?_
                refine jw_aload_n (pc := 145) C dX6_image_145 0 rfl ?_
                refine jw_get (pc := 146) C hi_X6_image_X6 0 rfl rfl 12 (by decide) fl_X6_image_31 rfl rfl dX6_image_146 ?_
                refine jw_iload_n (pc := 149) C dX6_image_149 1 rfl ?_
                refine jw_iald (pc := 150) C (f := HW) 7 i rfl rfl (by omega) (by decide) dX6_image_150 ?_
                refine jw_iast (pc := 151) C (f := c6) 14 i rfl rfl (by omega) (by decide) (ws' := [oM g co ((nh : Nat) : Int) qk qv ((ns : Nat) : Int) qh ql ch ((hd : Nat) : Int) q9 q10 q11 q12 ((pl : Nat) : Int) qp iw nw nz ((th : Nat) : Int) sd qs 1 co ((ns : Nat) : Int) ch ((hd : Nat) : Int) k26 k27 k28 k29 k30 k31 k32 hx, aI cI qv 5 V, aI cI qh 7 SH, aI cI ql 7 SL, aI cI q9 6 HH, aI cI q10 6 HO, aI cI q11 6 HL, aI cI q12 6 HW, aI cI k26 5 V, aI cI k27 6 (va_up c1 i (SH i)), aI cI k28 6 (va_up c2 i (SL i)), aI cI k29 6 (va_up c3 i (HH i)), aI cI k30 6 (va_up c4 i (HO i)), aI cI k31 6 (va_up c5 i (HL i)), aI cI k32 6 (va_up c6 i (HW i))]) rfl dX6_image_151 ?_
                refine jw_iinc (pc := 152) (z := ((i + 1 : Nat) : Int)) (lv' := [(1, .int (jI ((i + 1 : Nat) : Int))), (0, .ref g)]) C dX6_image_152 1 rfl (by omega) (by decide) rfl ?_
                refine jw_goto (pc := 155) (tgt := 74) C dX6_image_155 (by decide) ?_
                refine jw_lv [1, 0] rfl ?_
                exact ih_4 (i + 1) (va_up c1 i (SH i)) (va_up c2 i (SL i)) (va_up c3 i (HH i)) (va_up c4 i (HO i)) (va_up c5 i (HL i)) (va_up c6 i (HW i)) (by omega) (sp_cpy_step (n := 6) rfl hc1) (sp_cpy_step (n := 6) rfl hc2) (sp_cpy_step (n := 6) rfl hc3) (sp_cpy_step (n := 6) rfl hc4) (sp_cpy_step (n := 6) rfl hc5) (sp_cpy_step (n := 6) rfl hc6) (by omega)
          refine jw_lv [1, 0] rfl ?_
          exact lp_74_3 ((6 - 0) + 1) 0 KSH KSL KHH KHO KHL KHW (by omega) (fun y hy => absurd hy (Nat.not_lt_zero _)) (fun y hy => absurd hy (Nat.not_lt_zero _)) (fun y hy => absurd hy (Nat.not_lt_zero _)) (fun y hy => absurd hy (Nat.not_lt_zero _)) (fun y hy => absurd hy (Nat.not_lt_zero _)) (fun y hy => absurd hy (Nat.not_lt_zero _)) (Nat.lt_succ_self _)
        · -- 51 f
          refine jw_aload_n (pc := 54) C dX6_image_54 0 rfl ?_
          refine jw_get (pc := 55) C hi_X6_image_X6 0 rfl rfl 26 (by decide) fl_X6_image_41 rfl rfl dX6_image_55 ?_
          refine jw_iload_n (pc := 58) C dX6_image_58 1 rfl ?_
          refine jw_aload_n (pc := 59) C dX6_image_59 0 rfl ?_
          refine jw_get (pc := 60) C hi_X6_image_X6 0 rfl rfl 3 (by decide) fl_X6_image_13 rfl rfl dX6_image_60 ?_
          refine jw_iload_n (pc := 63) C dX6_image_63 1 rfl ?_
          refine jw_iald (pc := 64) C (f := V) 1 i5 rfl rfl (by omega) (by decide) dX6_image_64 ?_
          refine jw_iast (pc := 65) C (f := c0) 8 i5 rfl rfl (by omega) (by decide) (ws' := [oM g co ((nh : Nat) : Int) qk qv ((ns : Nat) : Int) qh ql ch ((hd : Nat) : Int) q9 q10 q11 q12 ((pl : Nat) : Int) qp iw nw nz ((th : Nat) : Int) sd qs 1 co ((ns : Nat) : Int) ch ((hd : Nat) : Int) k26 k27 k28 k29 k30 k31 k32 hx, aI cI qv 5 V, aI cI qh 7 SH, aI cI ql 7 SL, aI cI q9 6 HH, aI cI q10 6 HO, aI cI q11 6 HL, aI cI q12 6 HW, aI cI k26 5 (va_up c0 i5 (V i5)), aI cI k27 6 KSH, aI cI k28 6 KSL, aI cI k29 6 KHH, aI cI k30 6 KHO, aI cI k31 6 KHL, aI cI k32 6 KHW]) rfl dX6_image_65 ?_
          refine jw_iinc (pc := 66) (z := ((i5 + 1 : Nat) : Int)) (lv' := [(1, .int (jI ((i5 + 1 : Nat) : Int))), (0, .ref g)]) C dX6_image_66 1 rfl (by omega) (by decide) rfl ?_
          refine jw_goto (pc := 69) (tgt := 49) C dX6_image_69 (by decide) ?_
          refine jw_lv [1, 0] rfl ?_
          exact ih_2 (i5 + 1) (va_up c0 i5 (V i5)) (by omega) (sp_cpy_step (n := 5) rfl hc0) (by omega)
    refine jw_lv [1, 0] rfl ?_
    exact lp_49_1 ((5 - 0) + 1) 0 KV (by omega) (fun y hy => absurd hy (Nat.not_lt_zero _)) (Nat.lt_succ_self _)
  · exfalso; omega
set_option maxHeartbeats 4000000 in
set_option maxRecDepth 100000 in
theorem con_X6_imageF (lau : Launch) (D : va_G) (cI cB : ClassId) (g : Nat) (co : Int) (nh : Nat) (qk : Nat) (qv : Nat) (ns : Nat) (qh : Nat) (ql : Nat) (ch : Int) (hd : Nat) (q9 : Nat) (q10 : Nat) (q11 : Nat) (q12 : Nat) (pl : Nat) (qp : Nat) (iw : Int) (nw : Int) (nz : Int) (th : Nat) (sd : Int64) (qs : Nat) (ik : Int) (kc : Int) (ks : Nat) (kg : Int) (kh : Nat) (k26 : Nat) (k27 : Nat) (k28 : Nat) (k29 : Nat) (k30 : Nat) (k31 : Nat) (k32 : Nat) (hx : Int64) (h0 : nh = 0) : jMR lau yX6_image wsX6_image rmX6_image D cI cB [.ref g] [oM g co ((nh : Nat) : Int) qk qv ((ns : Nat) : Int) qh ql ch ((hd : Nat) : Int) q9 q10 q11 q12 ((pl : Nat) : Int) qp iw nw nz ((th : Nat) : Int) sd qs ik kc ((ks : Nat) : Int) kg ((kh : Nat) : Int) k26 k27 k28 k29 k30 k31 k32 hx] (.int (jI (-103))) := by
  refine jMR.of (own := RX6) (cc := cX6_image) (maxL := 2) (ret := (some .int)) rfl (by decide) rfl (Nat.le_of_ble_eq_true rfl) ?_
  intro X C E
  refine jw_lv (lv' := [(0, .ref g)]) [0] rfl ?_
  refine jw_aload_n (pc := 0) C dX6_image_0 0 rfl ?_
  refine jw_get (pc := 1) C hi_X6_image_X6 0 rfl rfl 1 (by decide) fl_X6_image_94 rfl rfl dX6_image_1 ?_
  refine jw_if_ne (pc := 4) (tgt := 10) C dX6_image_4 (by decide) (by omega) (fun c_4 => ?_) (fun c_4 => ?_)
  · exfalso; omega
  · -- 4 f
    refine jw_bipush (pc := 7) C dX6_image_7 (by decide +kernel) ?_
    exact jw_iretR (pc := 9) C E dX6_image_9 rfl
theorem fl_X6_restore_13 : Cond.fieldLink RX6 13 "GongTideModel" "levelOf" "[I" ∈ wsX6_restore := by decide +kernel
theorem fl_X6_restore_16 : Cond.fieldLink RX6 16 "GongTideModel" "hourOf" "[I" ∈ wsX6_restore := by decide +kernel
theorem fl_X6_restore_19 : Cond.fieldLink RX6 19 "GongTideModel" "loudOf" "[I" ∈ wsX6_restore := by decide +kernel
theorem fl_X6_restore_22 : Cond.fieldLink RX6 22 "GongTideModel" "heardHouse" "[I" ∈ wsX6_restore := by decide +kernel
theorem fl_X6_restore_25 : Cond.fieldLink RX6 25 "GongTideModel" "heardHour" "[I" ∈ wsX6_restore := by decide +kernel
theorem fl_X6_restore_28 : Cond.fieldLink RX6 28 "GongTideModel" "heardLoud" "[I" ∈ wsX6_restore := by decide +kernel
theorem fl_X6_restore_31 : Cond.fieldLink RX6 31 "GongTideModel" "heardHow" "[I" ∈ wsX6_restore := by decide +kernel
theorem fl_X6_restore_41 : Cond.fieldLink RX6 41 "GongTideModel" "keptLevel" "[I" ∈ wsX6_restore := by decide +kernel
theorem fl_X6_restore_44 : Cond.fieldLink RX6 44 "GongTideModel" "keptHour" "[I" ∈ wsX6_restore := by decide +kernel
theorem fl_X6_restore_47 : Cond.fieldLink RX6 47 "GongTideModel" "keptLoud" "[I" ∈ wsX6_restore := by decide +kernel
theorem fl_X6_restore_50 : Cond.fieldLink RX6 50 "GongTideModel" "keptHouse" "[I" ∈ wsX6_restore := by decide +kernel
theorem fl_X6_restore_53 : Cond.fieldLink RX6 53 "GongTideModel" "keptHeardHour" "[I" ∈ wsX6_restore := by decide +kernel
theorem fl_X6_restore_56 : Cond.fieldLink RX6 56 "GongTideModel" "keptHeardLoud" "[I" ∈ wsX6_restore := by decide +kernel
theorem fl_X6_restore_59 : Cond.fieldLink RX6 59 "GongTideModel" "keptHow" "[I" ∈ wsX6_restore := by decide +kernel
theorem fl_X6_restore_97 : Cond.fieldLink RX6 97 "GongTideModel" "strokes" "I" ∈ wsX6_restore := by decide +kernel
theorem fl_X6_restore_100 : Cond.fieldLink RX6 100 "GongTideModel" "colonies" "I" ∈ wsX6_restore := by decide +kernel
theorem fl_X6_restore_103 : Cond.fieldLink RX6 103 "GongTideModel" "changes" "I" ∈ wsX6_restore := by decide +kernel
theorem fl_X6_restore_106 : Cond.fieldLink RX6 106 "GongTideModel" "heard" "I" ∈ wsX6_restore := by decide +kernel
theorem fl_X6_restore_202 : Cond.fieldLink RX6 202 "GongTideModel" "isKept" "Z" ∈ wsX6_restore := by decide +kernel
theorem fl_X6_restore_205 : Cond.fieldLink RX6 205 "GongTideModel" "keptColony" "I" ∈ wsX6_restore := by decide +kernel
theorem fl_X6_restore_208 : Cond.fieldLink RX6 208 "GongTideModel" "keptStrokes" "I" ∈ wsX6_restore := by decide +kernel
theorem fl_X6_restore_211 : Cond.fieldLink RX6 211 "GongTideModel" "keptChanges" "I" ∈ wsX6_restore := by decide +kernel
theorem fl_X6_restore_214 : Cond.fieldLink RX6 214 "GongTideModel" "keptHeard" "I" ∈ wsX6_restore := by decide +kernel
theorem hi_X6_restore_X6 : ∀ w ∈ wsX60, w ∈ wsX6_restore := fun w h => List.mem_cons_of_mem _ (List.mem_append_right _ h)
def rmX6_restore : Room := { frames := 0, cells := 0, slots := 0, locals := 0 }
set_option maxHeartbeats 4000000 in
set_option maxRecDepth 100000 in
theorem con_X6_restore (lau : Launch) (D : va_G) (cI cB : ClassId) (g : Nat) (co : Int) (nh : Nat) (qk : Nat) (qv : Nat) (ns : Nat) (qh : Nat) (ql : Nat) (ch : Int) (hd : Nat) (q9 : Nat) (q10 : Nat) (q11 : Nat) (q12 : Nat) (pl : Nat) (qp : Nat) (iw : Int) (nw : Int) (nz : Int) (th : Nat) (sd : Int64) (qs : Nat) (ik : Int) (kc : Int) (ks : Nat) (kg : Int) (kh : Nat) (k26 : Nat) (k27 : Nat) (k28 : Nat) (k29 : Nat) (k30 : Nat) (k31 : Nat) (k32 : Nat) (hx : Int64) (V : Nat → Int) (SH : Nat → Int) (SL : Nat → Int) (HH : Nat → Int) (HO : Nat → Int) (HL : Nat → Int) (HW : Nat → Int) (KV : Nat → Int) (KSH : Nat → Int) (KSL : Nat → Int) (KHH : Nat → Int) (KHO : Nat → Int) (KHL : Nat → Int) (KHW : Nat → Int) (hnh : nh ≤ 5) (h0 : ik = 1) (h00 : kc = co) (hco : -2147483648 ≤ co ∧ co < 2147483648) : jMW (S := Unit) lau yX6_restore wsX6_restore rmX6_restore D cI cB [.ref g] [oM g co ((nh : Nat) : Int) qk qv ((ns : Nat) : Int) qh ql ch ((hd : Nat) : Int) q9 q10 q11 q12 ((pl : Nat) : Int) qp iw nw nz ((th : Nat) : Int) sd qs ik kc ((ks : Nat) : Int) kg ((kh : Nat) : Int) k26 k27 k28 k29 k30 k31 k32 hx, aI cI qv 5 V, aI cI qh 7 SH, aI cI ql 7 SL, aI cI q9 6 HH, aI cI q10 6 HO, aI cI q11 6 HL, aI cI q12 6 HW, aI cI k26 5 KV, aI cI k27 6 KSH, aI cI k28 6 KSL, aI cI k29 6 KHH, aI cI k30 6 KHO, aI cI k31 6 KHL, aI cI k32 6 KHW] (fun u => some (.int (jI kg))) (fun u => True) (fun u => [oM g co ((nh : Nat) : Int) qk qv ((ks : Nat) : Int) qh ql kg ((kh : Nat) : Int) q9 q10 q11 q12 ((pl : Nat) : Int) qp iw nw nz ((th : Nat) : Int) sd qs ik kc ((ks : Nat) : Int) kg ((kh : Nat) : Int) k26 k27 k28 k29 k30 k31 k32 hx, aI cI qv 5 KV, aI cI qh 7 (sp_c6 KSH SH), aI cI ql 7 (sp_c6 KSL SL), aI cI q9 6 KHH, aI cI q10 6 KHO, aI cI q11 6 KHL, aI cI q12 6 KHW, aI cI k26 5 KV, aI cI k27 6 KSH, aI cI k28 6 KSL, aI cI k29 6 KHH, aI cI k30 6 KHO, aI cI k31 6 KHL, aI cI k32 6 KHW]) := by
  refine jMW.of (own := RX6) (cc := cX6_restore) (maxL := 2) (ret := (some .int)) rfl (by decide) rfl (Nat.le_of_ble_eq_true rfl) ?_
  intro X C E
  refine jw_lv (lv' := [(0, .ref g)]) [0] rfl ?_
  refine jw_aload_n (pc := 0) C dX6_restore_0 0 rfl ?_
  refine jw_get (pc := 1) C hi_X6_restore_X6 0 rfl rfl 21 (by decide) fl_X6_restore_202 rfl rfl dX6_restore_1 ?_
  refine jw_if_eq (pc := 4) (tgt := 18) C dX6_restore_4 (by decide) (by omega) (fun c_4 => ?_) (fun c_4 => ?_)
  · exfalso; omega
  · -- 4 f
    refine jw_aload_n (pc := 7) C dX6_restore_7 0 rfl ?_
    refine jw_get (pc := 8) C hi_X6_restore_X6 0 rfl rfl 22 (by decide) fl_X6_restore_205 rfl rfl dX6_restore_8 ?_
    refine jw_aload_n (pc := 11) C dX6_restore_11 0 rfl ?_
    refine jw_get (pc := 12) C hi_X6_restore_X6 0 rfl rfl 0 (by decide) fl_X6_restore_100 rfl rfl dX6_restore_12 ?_
    refine jw_icmp_eq (pc := 15) (tgt := 21) C dX6_restore_15 (by decide) (by omega) (by omega) (fun c_15 => ?_) (fun c_15 => ?_)
    · -- 15 t
      refine jw_aload_n (pc := 21) C dX6_restore_21 0 rfl ?_
      refine jw_aload_n (pc := 22) C dX6_restore_22 0 rfl ?_
      refine jw_get (pc := 23) C hi_X6_restore_X6 0 rfl rfl 23 (by decide) fl_X6_restore_208 rfl rfl dX6_restore_23 ?_
      refine jw_put (pc := 26) (ty := .int) (ws' := [oM g co ((nh : Nat) : Int) qk qv ((ks : Nat) : Int) qh ql ch ((hd : Nat) : Int) q9 q10 q11 q12 ((pl : Nat) : Int) qp iw nw nz ((th : Nat) : Int) sd qs ik kc ((ks : Nat) : Int) kg ((kh : Nat) : Int) k26 k27 k28 k29 k30 k31 k32 hx, aI cI qv 5 V, aI cI qh 7 SH, aI cI ql 7 SL, aI cI q9 6 HH, aI cI q10 6 HO, aI cI q11 6 HL, aI cI q12 6 HW, aI cI k26 5 KV, aI cI k27 6 KSH, aI cI k28 6 KSL, aI cI k29 6 KHH, aI cI k30 6 KHO, aI cI k31 6 KHL, aI cI k32 6 KHW]) C hi_X6_restore_X6 tyX6 tyX6_ok nmX6 0 rfl rfl 4 (by decide) fl_X6_restore_97 rfl rfl (by decide +kernel) rfl rfl (Nat.le_of_ble_eq_true rfl) rfl dX6_restore_26 ?_
      refine jw_aload_n (pc := 29) C dX6_restore_29 0 rfl ?_
      refine jw_aload_n (pc := 30) C dX6_restore_30 0 rfl ?_
      refine jw_get (pc := 31) C hi_X6_restore_X6 0 rfl rfl 24 (by decide) fl_X6_restore_211 rfl rfl dX6_restore_31 ?_
      refine jw_put (pc := 34) (ty := .int) (ws' := [oM g co ((nh : Nat) : Int) qk qv ((ks : Nat) : Int) qh ql kg ((hd : Nat) : Int) q9 q10 q11 q12 ((pl : Nat) : Int) qp iw nw nz ((th : Nat) : Int) sd qs ik kc ((ks : Nat) : Int) kg ((kh : Nat) : Int) k26 k27 k28 k29 k30 k31 k32 hx, aI cI qv 5 V, aI cI qh 7 SH, aI cI ql 7 SL, aI cI q9 6 HH, aI cI q10 6 HO, aI cI q11 6 HL, aI cI q12 6 HW, aI cI k26 5 KV, aI cI k27 6 KSH, aI cI k28 6 KSL, aI cI k29 6 KHH, aI cI k30 6 KHO, aI cI k31 6 KHL, aI cI k32 6 KHW]) C hi_X6_restore_X6 tyX6 tyX6_ok nmX6 0 rfl rfl 7 (by decide) fl_X6_restore_103 rfl rfl (by decide +kernel) rfl rfl (Nat.le_of_ble_eq_true rfl) rfl dX6_restore_34 ?_
      refine jw_aload_n (pc := 37) C dX6_restore_37 0 rfl ?_
      refine jw_aload_n (pc := 38) C dX6_restore_38 0 rfl ?_
      refine jw_get (pc := 39) C hi_X6_restore_X6 0 rfl rfl 25 (by decide) fl_X6_restore_214 rfl rfl dX6_restore_39 ?_
      refine jw_put (pc := 42) (ty := .int) (ws' := [oM g co ((nh : Nat) : Int) qk qv ((ks : Nat) : Int) qh ql kg ((kh : Nat) : Int) q9 q10 q11 q12 ((pl : Nat) : Int) qp iw nw nz ((th : Nat) : Int) sd qs ik kc ((ks : Nat) : Int) kg ((kh : Nat) : Int) k26 k27 k28 k29 k30 k31 k32 hx, aI cI qv 5 V, aI cI qh 7 SH, aI cI ql 7 SL, aI cI q9 6 HH, aI cI q10 6 HO, aI cI q11 6 HL, aI cI q12 6 HW, aI cI k26 5 KV, aI cI k27 6 KSH, aI cI k28 6 KSL, aI cI k29 6 KHH, aI cI k30 6 KHO, aI cI k31 6 KHL, aI cI k32 6 KHW]) C hi_X6_restore_X6 tyX6 tyX6_ok nmX6 0 rfl rfl 8 (by decide) fl_X6_restore_106 rfl rfl (by decide +kernel) rfl rfl (Nat.le_of_ble_eq_true rfl) rfl dX6_restore_42 ?_
      refine jw_iconst (pc := 45) C dX6_restore_45 ?_
      refine jw_istore_n (pc := 46) (lv' := [(1, .int (jI 0)), (0, .ref g)]) C dX6_restore_46 (by decide) rfl ?_
      have lp_47_1 : ∀ (fu : Nat) (i5 : Nat) (c0 : Nat → Int), (i5 ≤ 5) → (∀ y, y < i5 → c0 y = KV y) → 5 - i5 < fu → jW X 47 [(0, .ref g), (1, .int (jI ((i5 : Nat) : Int)))] [] [oM g co ((nh : Nat) : Int) qk qv ((ks : Nat) : Int) qh ql kg ((kh : Nat) : Int) q9 q10 q11 q12 ((pl : Nat) : Int) qp iw nw nz ((th : Nat) : Int) sd qs ik kc ((ks : Nat) : Int) kg ((kh : Nat) : Int) k26 k27 k28 k29 k30 k31 k32 hx, aI cI qv 5 c0, aI cI qh 7 SH, aI cI ql 7 SL, aI cI q9 6 HH, aI cI q10 6 HO, aI cI q11 6 HL, aI cI q12 6 HW, aI cI k26 5 KV, aI cI k27 6 KSH, aI cI k28 6 KSL, aI cI k29 6 KHH, aI cI k30 6 KHO, aI cI k31 6 KHL, aI cI k32 6 KHW] := by
        intro fu
        induction fu with
        | zero => intro i5 c0 hi5 hc0 hm; exact absurd hm (Nat.not_lt_zero _)
        | succ fu ih_2 =>
          intro i5 c0 hi5 hc0 hm
          refine jw_iload_n (pc := 47) C dX6_restore_47 1 rfl ?_
          refine jw_iconst (pc := 48) C dX6_restore_48 ?_
          refine jw_icmp_ge (pc := 49) (tgt := 70) C dX6_restore_49 (by decide) (by omega) (by omega) (fun c_49 => ?_) (fun c_49 => ?_)
          · -- 49 t
            refine jw_arr (f := c0) (g := KV) (ws' := [oM g co ((nh : Nat) : Int) qk qv ((ks : Nat) : Int) qh ql kg ((kh : Nat) : Int) q9 q10 q11 q12 ((pl : Nat) : Int) qp iw nw nz ((th : Nat) : Int) sd qs ik kc ((ks : Nat) : Int) kg ((kh : Nat) : Int) k26 k27 k28 k29 k30 k31 k32 hx, aI cI qv 5 KV, aI cI qh 7 SH, aI cI ql 7 SL, aI cI q9 6 HH, aI cI q10 6 HO, aI cI q11 6 HL, aI cI q12 6 HW, aI cI k26 5 KV, aI cI k27 6 KSH, aI cI k28 6 KSL, aI cI k29 6 KHH, aI cI k30 6 KHO, aI cI k31 6 KHL, aI cI k32 6 KHW]) 1 rfl (by exact fun y hy => hc0 y (by omega)) rfl ?_
            refine jw_iconst (pc := 70) C dX6_restore_70 ?_
            refine jw_istore_n (pc := 71) (lv' := [(1, .int (jI 0)), (0, .ref g)]) C dX6_restore_71 (by decide) rfl ?_
            have lp_72_3 : ∀ (fu : Nat) (i : Nat) (c1 : Nat → Int) (c2 : Nat → Int) (c3 : Nat → Int) (c4 : Nat → Int) (c5 : Nat → Int) (c6 : Nat → Int), (i ≤ 6) → (∀ y, c1 y = if y < i then KSH y else SH y) → (∀ y, c2 y = if y < i then KSL y else SL y) → (∀ y, c3 y = if y < i then KHH y else HH y) → (∀ y, c4 y = if y < i then KHO y else HO y) → (∀ y, c5 y = if y < i then KHL y else HL y) → (∀ y, c6 y = if y < i then KHW y else HW y) → 6 - i < fu → jW X 72 [(0, .ref g), (1, .int (jI ((i : Nat) : Int)))] [] [oM g co ((nh : Nat) : Int) qk qv ((ks : Nat) : Int) qh ql kg ((kh : Nat) : Int) q9 q10 q11 q12 ((pl : Nat) : Int) qp iw nw nz ((th : Nat) : Int) sd qs ik kc ((ks : Nat) : Int) kg ((kh : Nat) : Int) k26 k27 k28 k29 k30 k31 k32 hx, aI cI qv 5 KV, aI cI qh 7 c1, aI cI ql 7 c2, aI cI q9 6 c3, aI cI q10 6 c4, aI cI q11 6 c5, aI cI q12 6 c6, aI cI k26 5 KV, aI cI k27 6 KSH, aI cI k28 6 KSL, aI cI k29 6 KHH, aI cI k30 6 KHO, aI cI k31 6 KHL, aI cI k32 6 KHW] := by
              intro fu
              induction fu with
              | zero => intro i c1 c2 c3 c4 c5 c6 hi hc1 hc2 hc3 hc4 hc5 hc6 hm; exact absurd hm (Nat.not_lt_zero _)
              | succ fu ih_4 =>
                intro i c1 c2 c3 c4 c5 c6 hi hc1 hc2 hc3 hc4 hc5 hc6 hm
                refine jw_iload_n (pc := 72) C dX6_restore_72 1 rfl ?_
                refine jw_bipush (pc := 73) C dX6_restore_73 (by decide +kernel) ?_
                refine jw_icmp_ge (pc := 75) (tgt := 156) C dX6_restore_75 (by decide) (by omega) (by omega) (fun c_75 => ?_) (fun c_75 => ?_)
                · -- 75 t
                  refine jw_arr (f := c1) (g := sp_c6 KSH SH) (ws' := [oM g co ((nh : Nat) : Int) qk qv ((ks : Nat) : Int) qh ql kg ((kh : Nat) : Int) q9 q10 q11 q12 ((pl : Nat) : Int) qp iw nw nz ((th : Nat) : Int) sd qs ik kc ((ks : Nat) : Int) kg ((kh : Nat) : Int) k26 k27 k28 k29 k30 k31 k32 hx, aI cI qv 5 KV, aI cI qh 7 (sp_c6 KSH SH), aI cI ql 7 c2, aI cI q9 6 c3, aI cI q10 6 c4, aI cI q11 6 c5, aI cI q12 6 c6, aI cI k26 5 KV, aI cI k27 6 KSH, aI cI k28 6 KSL, aI cI k29 6 KHH, aI cI k30 6 KHO, aI cI k31 6 KHL, aI cI k32 6 KHW]) 2 rfl (by intro y hy; rw [hc1 y, show i = 6 by omega]; rfl) rfl ?_
                  refine jw_arr (f := c2) (g := sp_c6 KSL SL) (ws' := [oM g co ((nh : Nat) : Int) qk qv ((ks : Nat) : Int) qh ql kg ((kh : Nat) : Int) q9 q10 q11 q12 ((pl : Nat) : Int) qp iw nw nz ((th : Nat) : Int) sd qs ik kc ((ks : Nat) : Int) kg ((kh : Nat) : Int) k26 k27 k28 k29 k30 k31 k32 hx, aI cI qv 5 KV, aI cI qh 7 (sp_c6 KSH SH), aI cI ql 7 (sp_c6 KSL SL), aI cI q9 6 c3, aI cI q10 6 c4, aI cI q11 6 c5, aI cI q12 6 c6, aI cI k26 5 KV, aI cI k27 6 KSH, aI cI k28 6 KSL, aI cI k29 6 KHH, aI cI k30 6 KHO, aI cI k31 6 KHL, aI cI k32 6 KHW]) 3 rfl (by intro y hy; rw [hc2 y, show i = 6 by omega]; rfl) rfl ?_
                  refine jw_arr (f := c3) (g := KHH) (ws' := [oM g co ((nh : Nat) : Int) qk qv ((ks : Nat) : Int) qh ql kg ((kh : Nat) : Int) q9 q10 q11 q12 ((pl : Nat) : Int) qp iw nw nz ((th : Nat) : Int) sd qs ik kc ((ks : Nat) : Int) kg ((kh : Nat) : Int) k26 k27 k28 k29 k30 k31 k32 hx, aI cI qv 5 KV, aI cI qh 7 (sp_c6 KSH SH), aI cI ql 7 (sp_c6 KSL SL), aI cI q9 6 KHH, aI cI q10 6 c4, aI cI q11 6 c5, aI cI q12 6 c6, aI cI k26 5 KV, aI cI k27 6 KSH, aI cI k28 6 KSL, aI cI k29 6 KHH, aI cI k30 6 KHO, aI cI k31 6 KHL, aI cI k32 6 KHW]) 4 rfl (by intro y hy; rw [hc3 y, if_pos (by omega)]) rfl ?_
                  refine jw_arr (f := c4) (g := KHO) (ws' := [oM g co ((nh : Nat) : Int) qk qv ((ks : Nat) : Int) qh ql kg ((kh : Nat) : Int) q9 q10 q11 q12 ((pl : Nat) : Int) qp iw nw nz ((th : Nat) : Int) sd qs ik kc ((ks : Nat) : Int) kg ((kh : Nat) : Int) k26 k27 k28 k29 k30 k31 k32 hx, aI cI qv 5 KV, aI cI qh 7 (sp_c6 KSH SH), aI cI ql 7 (sp_c6 KSL SL), aI cI q9 6 KHH, aI cI q10 6 KHO, aI cI q11 6 c5, aI cI q12 6 c6, aI cI k26 5 KV, aI cI k27 6 KSH, aI cI k28 6 KSL, aI cI k29 6 KHH, aI cI k30 6 KHO, aI cI k31 6 KHL, aI cI k32 6 KHW]) 5 rfl (by intro y hy; rw [hc4 y, if_pos (by omega)]) rfl ?_
                  refine jw_arr (f := c5) (g := KHL) (ws' := [oM g co ((nh : Nat) : Int) qk qv ((ks : Nat) : Int) qh ql kg ((kh : Nat) : Int) q9 q10 q11 q12 ((pl : Nat) : Int) qp iw nw nz ((th : Nat) : Int) sd qs ik kc ((ks : Nat) : Int) kg ((kh : Nat) : Int) k26 k27 k28 k29 k30 k31 k32 hx, aI cI qv 5 KV, aI cI qh 7 (sp_c6 KSH SH), aI cI ql 7 (sp_c6 KSL SL), aI cI q9 6 KHH, aI cI q10 6 KHO, aI cI q11 6 KHL, aI cI q12 6 c6, aI cI k26 5 KV, aI cI k27 6 KSH, aI cI k28 6 KSL, aI cI k29 6 KHH, aI cI k30 6 KHO, aI cI k31 6 KHL, aI cI k32 6 KHW]) 6 rfl (by intro y hy; rw [hc5 y, if_pos (by omega)]) rfl ?_
                  refine jw_arr (f := c6) (g := KHW) (ws' := [oM g co ((nh : Nat) : Int) qk qv ((ks : Nat) : Int) qh ql kg ((kh : Nat) : Int) q9 q10 q11 q12 ((pl : Nat) : Int) qp iw nw nz ((th : Nat) : Int) sd qs ik kc ((ks : Nat) : Int) kg ((kh : Nat) : Int) k26 k27 k28 k29 k30 k31 k32 hx, aI cI qv 5 KV, aI cI qh 7 (sp_c6 KSH SH), aI cI ql 7 (sp_c6 KSL SL), aI cI q9 6 KHH, aI cI q10 6 KHO, aI cI q11 6 KHL, aI cI q12 6 KHW, aI cI k26 5 KV, aI cI k27 6 KSH, aI cI k28 6 KSL, aI cI k29 6 KHH, aI cI k30 6 KHO, aI cI k31 6 KHL, aI cI k32 6 KHW]) 7 rfl (by intro y hy; rw [hc6 y, if_pos (by omega)]) rfl ?_
                  refine jw_aload_n (pc := 156) C dX6_restore_156 0 rfl ?_
                  refine jw_get (pc := 157) C hi_X6_restore_X6 0 rfl rfl 7 (by decide) fl_X6_restore_103 rfl rfl dX6_restore_157 ?_
                  exact jw_iretW (pc := 160) C E dX6_restore_160 (()) rfl trivial rfl
                · -- 75 f
                  refine jw_aload_n (pc := 78) C dX6_restore_78 0 rfl ?_
                  refine jw_get (pc := 79) C hi_X6_restore_X6 0 rfl rfl 5 (by decide) fl_X6_restore_16 rfl rfl dX6_restore_79 ?_
                  refine jw_iload_n (pc := 82) C dX6_restore_82 1 rfl ?_
                  refine jw_aload_n (pc := 83) C dX6_restore_83 0 rfl ?_
                  refine jw_get (pc := 84) C hi_X6_restore_X6 0 rfl rfl 27 (by decide) fl_X6_restore_44 rfl rfl dX6_restore_84 ?_
                  refine jw_iload_n (pc := 87) C dX6_restore_87 1 rfl ?_
                  refine jw_iald (pc := 88) C (f := KSH) 9 i rfl rfl (by omega) (by decide) dX6_restore_88 ?_
                  refine jw_iast (pc := 89) C (f := c1) 2 i rfl rfl (by omega) (by decide) (ws' := [oM g co ((nh : Nat) : Int) qk qv ((ks : Nat) : Int) qh ql kg ((kh : Nat) : Int) q9 q10 q11 q12 ((pl : Nat) : Int) qp iw nw nz ((th : Nat) : Int) sd qs ik kc ((ks : Nat) : Int) kg ((kh : Nat) : Int) k26 k27 k28 k29 k30 k31 k32 hx, aI cI qv 5 KV, aI cI qh 7 (va_up c1 i (KSH i)), aI cI ql 7 c2, aI cI q9 6 c3, aI cI q10 6 c4, aI cI q11 6 c5, aI cI q12 6 c6, aI cI k26 5 KV, aI cI k27 6 KSH, aI cI k28 6 KSL, aI cI k29 6 KHH, aI cI k30 6 KHO, aI cI k31 6 KHL, aI cI k32 6 KHW]) rfl dX6_restore_89 ?_
                  refine jw_aload_n (pc := 90) C dX6_restore_90 0 rfl ?_
                  refine jw_get (pc := 91) C hi_X6_restore_X6 0 rfl rfl 6 (by decide) fl_X6_restore_19 rfl rfl dX6_restore_91 ?_
                  refine jw_iload_n (pc := 94) C dX6_restore_94 1 rfl ?_
                  refine jw_aload_n (pc := 95) C dX6_restore_95 0 rfl ?_
                  refine jw_get (pc := 96) C hi_X6_restore_X6 0 rfl rfl 28 (by decide) fl_X6_restore_47 rfl rfl dX6_restore_96 ?_
                  refine jw_iload_n (pc := 99) C dX6_restore_99 1 rfl ?_
                  refine jw_iald (pc := 100) C (f := KSL) 10 i rfl rfl (by omega) (by decide) dX6_restore_100 ?_
                  refine jw_iast (pc := 101) C (f := c2) 3 i rfl rfl (by omega) (by decide) (ws' := [oM g co ((nh : Nat) : Int) qk qv ((ks : Nat) : Int) qh ql kg ((kh : Nat) : Int) q9 q10 q11 q12 ((pl : Nat) : Int) qp iw nw nz ((th : Nat) : Int) sd qs ik kc ((ks : Nat) : Int) kg ((kh : Nat) : Int) k26 k27 k28 k29 k30 k31 k32 hx, aI cI qv 5 KV, aI cI qh 7 (va_up c1 i (KSH i)), aI cI ql 7 (va_up c2 i (KSL i)), aI cI q9 6 c3, aI cI q10 6 c4, aI cI q11 6 c5, aI cI q12 6 c6, aI cI k26 5 KV, aI cI k27 6 KSH, aI cI k28 6 KSL, aI cI k29 6 KHH, aI cI k30 6 KHO, aI cI k31 6 KHL, aI cI k32 6 KHW]) rfl dX6_restore_101 ?_
                  refine jw_aload_n (pc := 102) C dX6_restore_102 0 rfl ?_
                  refine jw_get (pc := 103) C hi_X6_restore_X6 0 rfl rfl 9 (by decide) fl_X6_restore_22 rfl rfl dX6_restore_103 ?_
                  refine jw_iload_n (pc := 106) C dX6_restore_106 1 rfl ?_
                  refine jw_aload_n (pc := 107) C dX6_restore_107 0 rfl ?_
                  refine jw_get (pc := 108) C hi_X6_restore_X6 0 rfl rfl 29 (by decide) fl_X6_restore_50 rfl rfl dX6_restore_108 ?_
                  refine jw_iload_n (pc := 111) C dX6_restore_111 1 rfl ?_
                  refine jw_iald (pc := 112) C (f := KHH) 11 i rfl rfl (by omega) (by decide) dX6_restore_112 ?_
                  refine jw_iast (pc := 113) C (f := c3) 4 i rfl rfl (by omega) (by decide) (ws' := [oM g co ((nh : Nat) : Int) qk qv ((ks : Nat) : Int) qh ql kg ((kh : Nat) : Int) q9 q10 q11 q12 ((pl : Nat) : Int) qp iw nw nz ((th : Nat) : Int) sd qs ik kc ((ks : Nat) : Int) kg ((kh : Nat) : Int) k26 k27 k28 k29 k30 k31 k32 hx, aI cI qv 5 KV, aI cI qh 7 (va_up c1 i (KSH i)), aI cI ql 7 (va_up c2 i (KSL i)), aI cI q9 6 (va_up c3 i (KHH i)), aI cI q10 6 c4, aI cI q11 6 c5, aI cI q12 6 c6, aI cI k26 5 KV, aI cI k27 6 KSH, aI cI k28 6 KSL, aI cI k29 6 KHH, aI cI k30 6 KHO, aI cI k31 6 KHL, aI cI k32 6 KHW]) rfl dX6_restore_113 ?_
                  refine jw_aload_n (pc := 114) C dX6_restore_114 0 rfl ?_
                  refine jw_get (pc := 115) C hi_X6_restore_X6 0 rfl rfl 10 (by decide) fl_X6_restore_25 rfl rfl dX6_restore_115 ?_
                  refine jw_iload_n (pc := 118) C dX6_restore_118 1 rfl ?_
                  refine jw_aload_n (pc := 119) C dX6_restore_119 0 rfl ?_
                  refine jw_get (pc := 120) C hi_X6_restore_X6 0 rfl rfl 30 (by decide) fl_X6_restore_53 rfl rfl dX6_restore_120 ?_
                  refine jw_iload_n (pc := 123) C dX6_restore_123 1 rfl ?_
                  refine jw_iald (pc := 124) C (f := KHO) 12 i rfl rfl (by omega) (by decide) dX6_restore_124 ?_
                  refine jw_iast (pc := 125) C (f := c4) 5 i rfl rfl (by omega) (by decide) (ws' := [oM g co ((nh : Nat) : Int) qk qv ((ks : Nat) : Int) qh ql kg ((kh : Nat) : Int) q9 q10 q11 q12 ((pl : Nat) : Int) qp iw nw nz ((th : Nat) : Int) sd qs ik kc ((ks : Nat) : Int) kg ((kh : Nat) : Int) k26 k27 k28 k29 k30 k31 k32 hx, aI cI qv 5 KV, aI cI qh 7 (va_up c1 i (KSH i)), aI cI ql 7 (va_up c2 i (KSL i)), aI cI q9 6 (va_up c3 i (KHH i)), aI cI q10 6 (va_up c4 i (KHO i)), aI cI q11 6 c5, aI cI q12 6 c6, aI cI k26 5 KV, aI cI k27 6 KSH, aI cI k28 6 KSL, aI cI k29 6 KHH, aI cI k30 6 KHO, aI cI k31 6 KHL, aI cI k32 6 KHW]) rfl dX6_restore_125 ?_
                  refine jw_aload_n (pc := 126) C dX6_restore_126 0 rfl ?_
                  refine jw_get (pc := 127) C hi_X6_restore_X6 0 rfl rfl 11 (by decide) fl_X6_restore_28 rfl rfl dX6_restore_127 ?_
                  refine jw_iload_n (pc := 130) C dX6_restore_130 1 rfl ?_
                  refine jw_aload_n (pc := 131) C dX6_restore_131 0 rfl ?_
                  refine jw_get (pc := 132) C hi_X6_restore_X6 0 rfl rfl 31 (by decide) fl_X6_restore_56 rfl rfl dX6_restore_132 ?_
                  refine jw_iload_n (pc := 135) C dX6_restore_135 1 rfl ?_
                  refine jw_iald (pc := 136) C (f := KHL) 13 i rfl rfl (by omega) (by decide) dX6_restore_136 ?_
                  refine jw_iast (pc := 137) C (f := c5) 6 i rfl rfl (by omega) (by decide) (ws' := [oM g co ((nh : Nat) : Int) qk qv ((ks : Nat) : Int) qh ql kg ((kh : Nat) : Int) q9 q10 q11 q12 ((pl : Nat) : Int) qp iw nw nz ((th : Nat) : Int) sd qs ik kc ((ks : Nat) : Int) kg ((kh : Nat) : Int) k26 k27 k28 k29 k30 k31 k32 hx, aI cI qv 5 KV, aI cI qh 7 (va_up c1 i (KSH i)), aI cI ql 7 (va_up c2 i (KSL i)), aI cI q9 6 (va_up c3 i (KHH i)), aI cI q10 6 (va_up c4 i (KHO i)), aI cI q11 6 (va_up c5 i (KHL i)), aI cI q12 6 c6, aI cI k26 5 KV, aI cI k27 6 KSH, aI cI k28 6 KSL, aI cI k29 6 KHH, aI cI k30 6 KHO, aI cI k31 6 KHL, aI cI k32 6 KHW]) rfl dX6_restore_137 ?_
                  refine jw_aload_n (pc := 138) C dX6_restore_138 0 rfl ?_
                  refine jw_get (pc := 139) C hi_X6_restore_X6 0 rfl rfl 12 (by decide) fl_X6_restore_31 rfl rfl dX6_restore_139 ?_
                  refine jw_iload_n (pc := 142) C dX6_restore_142 1 rfl ?_
                  refine jw_aload_n (pc := 143) C dX6_restore_143 0 rfl ?_
                  refine jw_get (pc := 144) C hi_X6_restore_X6 0 rfl rfl 32 (by decide) fl_X6_restore_59 rfl rfl dX6_restore_144 ?_
                  refine jw_iload_n (pc := 147) C dX6_restore_147 1 rfl ?_
                  refine jw_iald (pc := 148) C (f := KHW) 14 i rfl rfl (by omega) (by decide) dX6_restore_148 ?_
                  refine jw_iast (pc := 149) C (f := c6) 7 i rfl rfl (by omega) (by decide) (ws' := [oM g co ((nh : Nat) : Int) qk qv ((ks : Nat) : Int) qh ql kg ((kh : Nat) : Int) q9 q10 q11 q12 ((pl : Nat) : Int) qp iw nw nz ((th : Nat) : Int) sd qs ik kc ((ks : Nat) : Int) kg ((kh : Nat) : Int) k26 k27 k28 k29 k30 k31 k32 hx, aI cI qv 5 KV, aI cI qh 7 (va_up c1 i (KSH i)), aI cI ql 7 (va_up c2 i (KSL i)), aI cI q9 6 (va_up c3 i (KHH i)), aI cI q10 6 (va_up c4 i (KHO i)), aI cI q11 6 (va_up c5 i (KHL i)), aI cI q12 6 (va_up c6 i (KHW i)), aI cI k26 5 KV, aI cI k27 6 KSH, aI cI k28 6 KSL, aI cI k29 6 KHH, aI cI k30 6 KHO, aI cI k31 6 KHL, aI cI k32 6 KHW]) rfl dX6_restore_149 ?_
                  refine jw_iinc (pc := 150) (z := ((i + 1 : Nat) : Int)) (lv' := [(1, .int (jI ((i + 1 : Nat) : Int))), (0, .ref g)]) C dX6_restore_150 1 rfl (by omega) (by decide) rfl ?_
                  refine jw_goto (pc := 153) (tgt := 72) C dX6_restore_153 (by decide) ?_
                  refine jw_lv [1, 0] rfl ?_
                  exact ih_4 (i + 1) (va_up c1 i (KSH i)) (va_up c2 i (KSL i)) (va_up c3 i (KHH i)) (va_up c4 i (KHO i)) (va_up c5 i (KHL i)) (va_up c6 i (KHW i)) (by omega) (sp_c6_step (n := 6) (by omega) hc1) (sp_c6_step (n := 6) (by omega) hc2) (sp_c6_step (n := 6) (by omega) hc3) (sp_c6_step (n := 6) (by omega) hc4) (sp_c6_step (n := 6) (by omega) hc5) (sp_c6_step (n := 6) (by omega) hc6) (by omega)
            refine jw_lv [1, 0] rfl ?_
            exact lp_72_3 ((6 - 0) + 1) 0 SH SL HH HO HL HW (by omega) (fun y => (if_neg (Nat.not_lt_zero y)).symm) (fun y => (if_neg (Nat.not_lt_zero y)).symm) (fun y => (if_neg (Nat.not_lt_zero y)).symm) (fun y => (if_neg (Nat.not_lt_zero y)).symm) (fun y => (if_neg (Nat.not_lt_zero y)).symm) (fun y => (if_neg (Nat.not_lt_zero y)).symm) (Nat.lt_succ_self _)
          · -- 49 f
            refine jw_aload_n (pc := 52) C dX6_restore_52 0 rfl ?_
            refine jw_get (pc := 53) C hi_X6_restore_X6 0 rfl rfl 3 (by decide) fl_X6_restore_13 rfl rfl dX6_restore_53 ?_
            refine jw_iload_n (pc := 56) C dX6_restore_56 1 rfl ?_
            refine jw_aload_n (pc := 57) C dX6_restore_57 0 rfl ?_
            refine jw_get (pc := 58) C hi_X6_restore_X6 0 rfl rfl 26 (by decide) fl_X6_restore_41 rfl rfl dX6_restore_58 ?_
            refine jw_iload_n (pc := 61) C dX6_restore_61 1 rfl ?_
            refine jw_iald (pc := 62) C (f := KV) 8 i5 rfl rfl (by omega) (by decide) dX6_restore_62 ?_
            refine jw_iast (pc := 63) C (f := c0) 1 i5 rfl rfl (by omega) (by decide) (ws' := [oM g co ((nh : Nat) : Int) qk qv ((ks : Nat) : Int) qh ql kg ((kh : Nat) : Int) q9 q10 q11 q12 ((pl : Nat) : Int) qp iw nw nz ((th : Nat) : Int) sd qs ik kc ((ks : Nat) : Int) kg ((kh : Nat) : Int) k26 k27 k28 k29 k30 k31 k32 hx, aI cI qv 5 (va_up c0 i5 (KV i5)), aI cI qh 7 SH, aI cI ql 7 SL, aI cI q9 6 HH, aI cI q10 6 HO, aI cI q11 6 HL, aI cI q12 6 HW, aI cI k26 5 KV, aI cI k27 6 KSH, aI cI k28 6 KSL, aI cI k29 6 KHH, aI cI k30 6 KHO, aI cI k31 6 KHL, aI cI k32 6 KHW]) rfl dX6_restore_63 ?_
            refine jw_iinc (pc := 64) (z := ((i5 + 1 : Nat) : Int)) (lv' := [(1, .int (jI ((i5 + 1 : Nat) : Int))), (0, .ref g)]) C dX6_restore_64 1 rfl (by omega) (by decide) rfl ?_
            refine jw_goto (pc := 67) (tgt := 47) C dX6_restore_67 (by decide) ?_
            refine jw_lv [1, 0] rfl ?_
            exact ih_2 (i5 + 1) (va_up c0 i5 (KV i5)) (by omega) (sp_cpy_step (n := 5) rfl hc0) (by omega)
      refine jw_lv [1, 0] rfl ?_
      exact lp_47_1 ((5 - 0) + 1) 0 V (by omega) (fun y hy => absurd hy (Nat.not_lt_zero _)) (Nat.lt_succ_self _)
    · exfalso; omega
set_option maxHeartbeats 4000000 in
set_option maxRecDepth 100000 in
theorem con_X6_restoreF (lau : Launch) (D : va_G) (cI cB : ClassId) (g : Nat) (co : Int) (nh : Nat) (qk : Nat) (qv : Nat) (ns : Nat) (qh : Nat) (ql : Nat) (ch : Int) (hd : Nat) (q9 : Nat) (q10 : Nat) (q11 : Nat) (q12 : Nat) (pl : Nat) (qp : Nat) (iw : Int) (nw : Int) (nz : Int) (th : Nat) (sd : Int64) (qs : Nat) (ik : Int) (kc : Int) (ks : Nat) (kg : Int) (kh : Nat) (k26 : Nat) (k27 : Nat) (k28 : Nat) (k29 : Nat) (k30 : Nat) (k31 : Nat) (k32 : Nat) (hx : Int64) (hco : -2147483648 ≤ co ∧ co < 2147483648) (hkc : -2147483648 ≤ kc ∧ kc < 2147483648) (hik : 0 ≤ ik ∧ ik ≤ 1) (h0 : ¬ (ik = 1 ∧ kc = co)) : jMR lau yX6_restore wsX6_restore rmX6_restore D cI cB [.ref g] [oM g co ((nh : Nat) : Int) qk qv ((ns : Nat) : Int) qh ql ch ((hd : Nat) : Int) q9 q10 q11 q12 ((pl : Nat) : Int) qp iw nw nz ((th : Nat) : Int) sd qs ik kc ((ks : Nat) : Int) kg ((kh : Nat) : Int) k26 k27 k28 k29 k30 k31 k32 hx] (.int (jI (-103))) := by
  refine jMR.of (own := RX6) (cc := cX6_restore) (maxL := 2) (ret := (some .int)) rfl (by decide) rfl (Nat.le_of_ble_eq_true rfl) ?_
  intro X C E
  refine jw_lv (lv' := [(0, .ref g)]) [0] rfl ?_
  refine jw_aload_n (pc := 0) C dX6_restore_0 0 rfl ?_
  refine jw_get (pc := 1) C hi_X6_restore_X6 0 rfl rfl 21 (by decide) fl_X6_restore_202 rfl rfl dX6_restore_1 ?_
  refine jw_if_eq (pc := 4) (tgt := 18) C dX6_restore_4 (by decide) (by omega) (fun c_4 => ?_) (fun c_4 => ?_)
  · -- 4 t
    refine jw_bipush (pc := 18) C dX6_restore_18 (by decide +kernel) ?_
    exact jw_iretR (pc := 20) C E dX6_restore_20 rfl
  · -- 4 f
    refine jw_aload_n (pc := 7) C dX6_restore_7 0 rfl ?_
    refine jw_get (pc := 8) C hi_X6_restore_X6 0 rfl rfl 22 (by decide) fl_X6_restore_205 rfl rfl dX6_restore_8 ?_
    refine jw_aload_n (pc := 11) C dX6_restore_11 0 rfl ?_
    refine jw_get (pc := 12) C hi_X6_restore_X6 0 rfl rfl 0 (by decide) fl_X6_restore_100 rfl rfl dX6_restore_12 ?_
    refine jw_icmp_eq (pc := 15) (tgt := 21) C dX6_restore_15 (by decide) (by omega) (by omega) (fun c_15 => ?_) (fun c_15 => ?_)
    · exfalso; omega
    · -- 15 f
      refine jw_bipush (pc := 18) C dX6_restore_18 (by decide +kernel) ?_
      exact jw_iretR (pc := 20) C E dX6_restore_20 rfl
