theorem fl_X6_digest_34 : Cond.fieldLink RX6 34 "GongTideModel" "page" "[B" ∈ wsX6_digest := by decide +kernel
theorem fl_X6_digest_66 : Cond.fieldLink RX6 66 "GongTideModel" "pageLength" "I" ∈ wsX6_digest := by decide +kernel
theorem fl_X6_digest_94 : Cond.fieldLink RX6 94 "GongTideModel" "houses" "I" ∈ wsX6_digest := by decide +kernel
theorem fl_X6_digest_97 : Cond.fieldLink RX6 97 "GongTideModel" "strokes" "I" ∈ wsX6_digest := by decide +kernel
theorem fl_X6_digest_225 : Cond.fieldLink RX6 225 "GongTideModel" "h" "J" ∈ wsX6_digest := by decide +kernel
theorem hi_X6_digest_X6 : ∀ w ∈ wsX60, w ∈ wsX6_digest := fun w h => List.mem_cons_of_mem _ (List.mem_append_right _ h)
theorem cn_X6_digest_228 : Cond.constantLong RX6 228 (1091) ∈ wsX6_digest := by decide +kernel
def rmX6_digest : Room := { frames := 7, cells := 0, slots := 0, locals := 165 }
set_option maxHeartbeats 8000000 in
set_option maxRecDepth 100000 in
theorem con_X6_digest (lau : Launch) (D : va_G) (cI cB : ClassId) (g : Nat) (co : Int) (nh : Nat) (qk : Nat) (qv : Nat) (ns : Nat) (qh : Nat) (ql : Nat) (ch : Int) (hd : Nat) (q9 : Nat) (q10 : Nat) (q11 : Nat) (q12 : Nat) (pl : Nat) (qp : Nat) (iw : Int) (nw : Int) (nz : Int) (sd : Int64) (qs : Nat) (ik : Int) (kc : Int) (ks : Nat) (kg : Int) (kh : Nat) (k26 : Nat) (k27 : Nat) (k28 : Nat) (k29 : Nat) (k30 : Nat) (k31 : Nat) (k32 : Nat) (hx : Int64) (K : Nat → Int) (V : Nat → Int) (SH : Nat → Int) (SL : Nat → Int) (P : Nat → Int) (HH : Nat → Int) (HO : Nat → Int) (HL : Nat → Int) (HW : Nat → Int) (hnh : nh ≤ 5) (hns : ns ≤ 6) (hhd : hd ≤ 6) (hpl : pl ≤ 25) (hS : ∀ x, x < ns → 0 ≤ SH x ∧ SH x ≤ 9 ∧ 0 ≤ SL x ∧ SL x ≤ 9) (hK : ∀ x, x < 5 → 0 ≤ K x ∧ K x ≤ 4) (hV : ∀ x, x < 5 → 0 ≤ V x ∧ V x ≤ 9) (hH : ∀ x, x < hd → 0 ≤ HH x ∧ HH x < 5 ∧ 0 ≤ HO x ∧ HO x ≤ 11 ∧ 1 ≤ HL x ∧ HL x ≤ 9 ∧ 0 ≤ HW x ∧ HW x ≤ 2) (hP : ∀ k, k < pl → 32 ≤ P k ∧ P k ≤ 126) (hz : nh = 0 → ns = 0) : jMW (S := (Nat → Int) × (Nat → Int)) lau yX6_digest wsX6_digest rmX6_digest D cI cB [.ref g] [oM g co ((nh : Nat) : Int) qk qv ((ns : Nat) : Int) qh ql ch ((hd : Nat) : Int) q9 q10 q11 q12 ((pl : Nat) : Int) qp iw nw nz ((0 : Nat) : Int) sd qs ik kc ((ks : Nat) : Int) kg ((kh : Nat) : Int) k26 k27 k28 k29 k30 k31 k32 hx, aI cI qk 5 K, aI cI qv 5 V, aI cI qh 7 SH, aI cI ql 7 SL, aI cI q9 6 HH, aI cI q10 6 HO, aI cI q11 6 HL, aI cI q12 6 HW, aI cB qp 25 P] (fun u => some (.long (sp_digest nh ns K V (sp_sum SH SL (ns + 0)) SH SL HH HO HL HW hd ch pl P co))) (fun u => (∀ j, j < ns → u.1 j = SH j) ∧ (∀ j, j < ns → u.2 j = SL j)) (fun u => [oM g co ((nh : Nat) : Int) qk qv ((ns : Nat) : Int) qh ql ch ((hd : Nat) : Int) q9 q10 q11 q12 ((pl : Nat) : Int) qp iw nw nz ((0 : Nat) : Int) sd qs ik kc ((ks : Nat) : Int) kg ((kh : Nat) : Int) k26 k27 k28 k29 k30 k31 k32 (sp_digest nh ns K V (sp_sum SH SL (ns + 0)) SH SL HH HO HL HW hd ch pl P co), aI cI qk 5 K, aI cI qv 5 V, aI cI qh 7 u.1, aI cI ql 7 u.2, aI cI q9 6 HH, aI cI q10 6 HO, aI cI q11 6 HL, aI cI q12 6 HW, aI cB qp 25 P]) := by
  refine jMW.of (own := RX6) (cc := cX6_digest) (maxL := 3) (ret := (some .long)) rfl (by decide) rfl (Nat.le_of_ble_eq_true rfl) ?_
  intro X C E
  refine jw_lv (lv' := [(0, .ref g)]) [0] rfl ?_
  have hp2 := sp_p2 hnh
  have hp1x := sp_p1 nh
  have hhb := sp_hrs_b K V (sp_sum SH SL (ns + 0)) HH HO HL HW hd
  refine jw_aload_n (pc := 0) C dX6_digest_0 0 rfl ?_
  refine jw_ldc2 (pc := 1) C dX6_digest_1 cn_X6_digest_228 ?_
  refine jw_put (pc := 4) (ty := .long) (ws' := [oM g co ((nh : Nat) : Int) qk qv ((ns : Nat) : Int) qh ql ch ((hd : Nat) : Int) q9 q10 q11 q12 ((pl : Nat) : Int) qp iw nw nz ((0 : Nat) : Int) sd qs ik kc ((ks : Nat) : Int) kg ((kh : Nat) : Int) k26 k27 k28 k29 k30 k31 k32 1091, aI cI qk 5 K, aI cI qv 5 V, aI cI qh 7 SH, aI cI ql 7 SL, aI cI q9 6 HH, aI cI q10 6 HO, aI cI q11 6 HL, aI cI q12 6 HW, aI cB qp 25 P]) C hi_X6_digest_X6 tyX6 tyX6_ok nmX6 0 rfl rfl 33 (by decide) fl_X6_digest_225 rfl rfl (by decide +kernel) rfl rfl (Nat.le_of_ble_eq_true rfl) rfl dX6_digest_4 ?_
  refine jw_iconst (pc := 7) C dX6_digest_7 ?_
  refine jw_istore_n (pc := 8) (lv' := [(1, .int (jI 0)), (0, .ref g)]) C dX6_digest_8 (by decide) rfl ?_
  have lp_9_1 : ∀ (fu : Nat) (e : Nat) (hv : Int64), (e ≤ nh) → (hv = sp_dgh (sp_hA K V (sp_sum SH SL (ns + 0))) e 1091) → nh - e < fu → jW X 9 [(0, .ref g), (1, .int (jI ((e : Nat) : Int)))] [] [oM g co ((nh : Nat) : Int) qk qv ((ns : Nat) : Int) qh ql ch ((hd : Nat) : Int) q9 q10 q11 q12 ((pl : Nat) : Int) qp iw nw nz ((0 : Nat) : Int) sd qs ik kc ((ks : Nat) : Int) kg ((kh : Nat) : Int) k26 k27 k28 k29 k30 k31 k32 hv, aI cI qk 5 K, aI cI qv 5 V, aI cI qh 7 SH, aI cI ql 7 SL, aI cI q9 6 HH, aI cI q10 6 HO, aI cI q11 6 HL, aI cI q12 6 HW, aI cB qp 25 P] := by
    intro fu
    induction fu with
    | zero => intro e hv he hhv hm; exact absurd hm (Nat.not_lt_zero _)
    | succ fu ih_2 =>
      intro e hv he hhv hm
      refine jw_iload_n (pc := 9) C dX6_digest_9 1 rfl ?_
      refine jw_aload_n (pc := 10) C dX6_digest_10 0 rfl ?_
      refine jw_get (pc := 11) C hi_X6_digest_X6 0 rfl rfl 1 (by decide) fl_X6_digest_94 rfl rfl dX6_digest_11 ?_
      refine jw_icmp_ge (pc := 14) (tgt := 59) C dX6_digest_14 (by decide) (by omega) (by omega) (fun c_14 => ?_) (fun c_14 => ?_)
      · -- 14 t
        refine jw_iconst (pc := 59) C dX6_digest_59 ?_
        refine jw_istore_n (pc := 60) (lv' := [(1, .int (jI 0)), (0, .ref g)]) C dX6_digest_60 (by decide) rfl ?_
        have lp_61_3 : ∀ (fu : Nat) (e2 : Nat) (hv2 : Int64), (e2 ≤ ns) → (hv2 = sp_dgs (sp_sA SH SL) e2 (sp_dgh (sp_hA K V (sp_sum SH SL (ns + 0))) nh 1091)) → ns - e2 < fu → jW X 61 [(0, .ref g), (1, .int (jI ((e2 : Nat) : Int)))] [] [oM g co ((nh : Nat) : Int) qk qv ((ns : Nat) : Int) qh ql ch ((hd : Nat) : Int) q9 q10 q11 q12 ((pl : Nat) : Int) qp iw nw nz ((0 : Nat) : Int) sd qs ik kc ((ks : Nat) : Int) kg ((kh : Nat) : Int) k26 k27 k28 k29 k30 k31 k32 hv2, aI cI qk 5 K, aI cI qv 5 V, aI cI qh 7 SH, aI cI ql 7 SL, aI cI q9 6 HH, aI cI q10 6 HO, aI cI q11 6 HL, aI cI q12 6 HW, aI cB qp 25 P] := by
          intro fu
          induction fu with
          | zero => intro e2 hv2 he2 hhv2 hm; exact absurd hm (Nat.not_lt_zero _)
          | succ fu ih_4 =>
            intro e2 hv2 he2 hhv2 hm
            refine jw_iload_n (pc := 61) C dX6_digest_61 1 rfl ?_
            refine jw_aload_n (pc := 62) C dX6_digest_62 0 rfl ?_
            refine jw_get (pc := 63) C hi_X6_digest_X6 0 rfl rfl 4 (by decide) fl_X6_digest_97 rfl rfl dX6_digest_63 ?_
            refine jw_icmp_ge (pc := 66) (tgt := 99) C dX6_digest_66 (by decide) (by omega) (by omega) (fun c_66 => ?_) (fun c_66 => ?_)
            · -- 66 t
              have jn_189_5 : ∀ (hq : Int64) (c : Nat → Int) (d : Nat → Int), (hq = (if 0 < nh then sp_dg2 nh K V (sp_sum SH SL (ns + 0)) HH HO HL HW hd (sp_dg1 nh ns K V (sp_sum SH SL (ns + 0)) SH SL) else sp_dg1 nh ns K V (sp_sum SH SL (ns + 0)) SH SL)) → (∀ y, y < ns → c y = SH y) → (∀ y, y < ns → d y = SL y) → jW X 189 [(0, .ref g)] [] [oM g co ((nh : Nat) : Int) qk qv ((ns : Nat) : Int) qh ql ch ((hd : Nat) : Int) q9 q10 q11 q12 ((pl : Nat) : Int) qp iw nw nz ((0 : Nat) : Int) sd qs ik kc ((ks : Nat) : Int) kg ((kh : Nat) : Int) k26 k27 k28 k29 k30 k31 k32 hq, aI cI qk 5 K, aI cI qv 5 V, aI cI qh 7 c, aI cI ql 7 d, aI cI q9 6 HH, aI cI q10 6 HO, aI cI q11 6 HL, aI cI q12 6 HW, aI cB qp 25 P] := by
                intro hq c d hhq hc hdl
                refine jw_iconst (pc := 189) C dX6_digest_189 ?_
                refine jw_istore_n (pc := 190) (lv' := [(1, .int (jI 0)), (0, .ref g)]) C dX6_digest_190 (by decide) rfl ?_
                have lp_191_6 : ∀ (fu : Nat) (j : Nat) (hv4 : Int64), (j ≤ pl) → (hv4 = sp_mf P j (if 0 < nh then sp_dg2 nh K V (sp_sum SH SL (ns + 0)) HH HO HL HW hd (sp_dg1 nh ns K V (sp_sum SH SL (ns + 0)) SH SL) else sp_dg1 nh ns K V (sp_sum SH SL (ns + 0)) SH SL)) → pl - j < fu → jW X 191 [(0, .ref g), (1, .int (jI ((j : Nat) : Int)))] [] [oM g co ((nh : Nat) : Int) qk qv ((ns : Nat) : Int) qh ql ch ((hd : Nat) : Int) q9 q10 q11 q12 ((pl : Nat) : Int) qp iw nw nz ((0 : Nat) : Int) sd qs ik kc ((ks : Nat) : Int) kg ((kh : Nat) : Int) k26 k27 k28 k29 k30 k31 k32 hv4, aI cI qk 5 K, aI cI qv 5 V, aI cI qh 7 c, aI cI ql 7 d, aI cI q9 6 HH, aI cI q10 6 HO, aI cI q11 6 HL, aI cI q12 6 HW, aI cB qp 25 P] := by
                  intro fu
                  induction fu with
                  | zero => intro j hv4 hj hhv4 hm; exact absurd hm (Nat.not_lt_zero _)
                  | succ fu ih_7 =>
                    intro j hv4 hj hhv4 hm
                    refine jw_iload_n (pc := 191) C dX6_digest_191 1 rfl ?_
                    refine jw_aload_n (pc := 192) C dX6_digest_192 0 rfl ?_
                    refine jw_get (pc := 193) C hi_X6_digest_X6 0 rfl rfl 13 (by decide) fl_X6_digest_66 rfl rfl dX6_digest_193 ?_
                    refine jw_icmp_ge (pc := 196) (tgt := 216) C dX6_digest_196 (by decide) (by omega) (by omega) (fun c_196 => ?_) (fun c_196 => ?_)
                    · -- 196 t
                      refine jw_iconst (pc := 216) C dX6_digest_216 ?_
                      refine jw_istore_n (pc := 217) (lv' := [(1, .int (jI 0)), (0, .ref g)]) C dX6_digest_217 (by decide) rfl ?_
                      have lp_218_8 : ∀ (fu : Nat) (w5 : Nat) (hv5 : Int64), (w5 ≤ 9) → (hv5 = sp_mf (fun q => sp_count nh ns K V (sp_sum SH SL (ns + 0)) ch hd pl co ((q : Nat) : Int)) w5 (sp_mf P pl (if 0 < nh then sp_dg2 nh K V (sp_sum SH SL (ns + 0)) HH HO HL HW hd (sp_dg1 nh ns K V (sp_sum SH SL (ns + 0)) SH SL) else sp_dg1 nh ns K V (sp_sum SH SL (ns + 0)) SH SL))) → 9 - w5 < fu → jW X 218 [(0, .ref g), (1, .int (jI ((w5 : Nat) : Int)))] [] [oM g co ((nh : Nat) : Int) qk qv ((ns : Nat) : Int) qh ql ch ((hd : Nat) : Int) q9 q10 q11 q12 ((pl : Nat) : Int) qp iw nw nz ((0 : Nat) : Int) sd qs ik kc ((ks : Nat) : Int) kg ((kh : Nat) : Int) k26 k27 k28 k29 k30 k31 k32 hv5, aI cI qk 5 K, aI cI qv 5 V, aI cI qh 7 c, aI cI ql 7 d, aI cI q9 6 HH, aI cI q10 6 HO, aI cI q11 6 HL, aI cI q12 6 HW, aI cB qp 25 P] := by
                        intro fu
                        induction fu with
                        | zero => intro w5 hv5 hw9 hhv5 hm; exact absurd hm (Nat.not_lt_zero _)
                        | succ fu ih_9 =>
                          intro w5 hv5 hw9 hhv5 hm
                          refine jw_iload_n (pc := 218) C dX6_digest_218 1 rfl ?_
                          refine jw_bipush (pc := 219) C dX6_digest_219 (by decide +kernel) ?_
                          refine jw_icmp_ge (pc := 221) (tgt := 240) C dX6_digest_221 (by decide) (by omega) (by omega) (fun c_221 => ?_) (fun c_221 => ?_)
                          · -- 221 t
                            refine jw_aload_n (pc := 240) C dX6_digest_240 0 rfl ?_
                            refine jw_get (pc := 241) C hi_X6_digest_X6 0 rfl rfl 33 (by decide) fl_X6_digest_225 rfl rfl dX6_digest_241 ?_
                            exact jw_lretW (pc := 244) C E dX6_digest_244 (((c), (d))) (congrArg (fun z => some (Value.long z)) (by rw [hhv5, show w5 = 9 by omega]; exact sp_dg_eq)) (by first | exact ⟨hc, hdl⟩ | exact hp4 | exact ⟨fun _ _ => rfl, fun _ _ => rfl⟩) (by rw [hhv5, show w5 = 9 by omega, sp_dg_eq])
                          · -- 221 f
                            have eR := sp_sum_congr (n := ns + 0) hc hdl
                            refine jw_aload_n (pc := 224) C dX6_digest_224 0 rfl ?_
                            refine jw_aload_n (pc := 225) C dX6_digest_225 0 rfl ?_
                            refine jw_iload_n (pc := 226) C dX6_digest_226 1 rfl ?_
                            refine jw_callRV (pc := 227) C [.int (jI ((((w5 : Nat) : Int))))] [.ref g] 1 (con_X6_howMany lau D cI cB g co nh qk qv ns qh ql ch hd q9 q10 q11 q12 pl qp iw nw nz sd qs ik kc ks kg kh k26 k27 k28 k29 k30 k31 k32 hv5 K V c d (((w5 : Nat) : Int)) (by omega) (by omega) (sp_bcd hS hc hdl) hK hV hz (by omega)) gX6_digest_X6_howMany rfl rfl rfl (by decide +kernel) ⟨Nat.le_of_ble_eq_true rfl, Nat.le_of_ble_eq_true rfl⟩ 0 rfl rfl [0, 1, 2, 3, 4] rfl rfl (Nat.le_of_ble_eq_true rfl) rfl dX6_digest_227 ?_
                            refine jw_top (y := jI (sp_count nh ns K V (sp_sum SH SL (ns + 0)) ch hd pl co ((w5 : Nat) : Int))) (congrArg jI (by rw [eR])) ?_
                            refine jw_i2l (pc := 230) C ((jI (sp_count nh ns K V (sp_sum SH SL (ns + 0)) ch hd pl co ((w5 : Nat) : Int))).toInt64) dX6_digest_230 rfl ?_
                            refine jw_callWV (pc := 231) C [.long (((jI (sp_count nh ns K V (sp_sum SH SL (ns + 0)) ch hd pl co ((w5 : Nat) : Int))).toInt64))] [] 1 (con_X6_mix lau D cI cB g co nh qk qv ns qh ql ch hd q9 q10 q11 q12 pl qp iw nw nz 0 sd qs ik kc ks kg kh k26 k27 k28 k29 k30 k31 k32 hv5 ((jI (sp_count nh ns K V (sp_sum SH SL (ns + 0)) ch hd pl co ((w5 : Nat) : Int))).toInt64) ) gX6_digest_X6_mix rfl rfl rfl (by decide +kernel) ⟨Nat.le_of_ble_eq_true rfl, Nat.le_of_ble_eq_true rfl⟩ 0 rfl rfl [0] [1, 2, 3, 4, 5, 6, 7, 8, 9] [9, 0, 1, 2, 3, 4, 5, 6, 7, 8] (wr := [aI cI qk 5 K, aI cI qv 5 V, aI cI qh 7 c, aI cI ql 7 d, aI cI q9 6 HH, aI cI q10 6 HO, aI cI q11 6 HL, aI cI q12 6 HW, aI cB qp 25 P]) rfl rfl (by decide) (by decide) (fun _ => rfl) (wN := fun u_231_10 => [oM g co ((nh : Nat) : Int) qk qv ((ns : Nat) : Int) qh ql ch ((hd : Nat) : Int) q9 q10 q11 q12 ((pl : Nat) : Int) qp iw nw nz ((0 : Nat) : Int) sd qs ik kc ((ks : Nat) : Int) kg ((kh : Nat) : Int) k26 k27 k28 k29 k30 k31 k32 (31 * hv5 + ((jI (sp_count nh ns K V (sp_sum SH SL (ns + 0)) ch hd pl co ((w5 : Nat) : Int))).toInt64)), aI cI qk 5 K, aI cI qv 5 V, aI cI qh 7 c, aI cI ql 7 d, aI cI q9 6 HH, aI cI q10 6 HO, aI cI q11 6 HL, aI cI q12 6 HW, aI cB qp 25 P]) (fun _ => rfl) (stN := fun u_231_10 => []) (fun _ => rfl) rfl (Nat.le_of_ble_eq_true rfl) rfl dX6_digest_231 (fun u_231_10 hu_231_10 => ?_)
                            refine jw_iinc (pc := 234) (z := ((w5 + 1 : Nat) : Int)) (lv' := [(1, .int (jI ((w5 + 1 : Nat) : Int))), (0, .ref g)]) C dX6_digest_234 1 rfl (by omega) (by decide) rfl ?_
                            refine jw_goto (pc := 237) (tgt := 218) C dX6_digest_237 (by decide) ?_
                            refine jw_lv [1, 0] rfl ?_
                            exact ih_9 (w5 + 1) (31 * hv5 + ((jI (sp_count nh ns K V (sp_sum SH SL (ns + 0)) ch hd pl co ((w5 : Nat) : Int))).toInt64)) (by omega) (by rw [hhv5]; exact sp_mf_s (a := fun q => sp_count nh ns K V (sp_sum SH SL (ns + 0)) ch hd pl co ((q : Nat) : Int))) (by omega)
                      refine jw_lv [1, 0] rfl ?_
                      exact lp_218_8 ((9 - 0) + 1) 0 hv4 (by omega) (by rw [hhv4, show j = pl by omega]; rfl) (Nat.lt_succ_self _)
                    · -- 196 f
                      refine jw_aload_n (pc := 199) C dX6_digest_199 0 rfl ?_
                      refine jw_aload_n (pc := 200) C dX6_digest_200 0 rfl ?_
                      refine jw_get (pc := 201) C hi_X6_digest_X6 0 rfl rfl 14 (by decide) fl_X6_digest_34 rfl rfl dX6_digest_201 ?_
                      refine jw_iload_n (pc := 204) C dX6_digest_204 1 rfl ?_
                      refine jw_bald (pc := 205) C (f := P) 9 j rfl rfl (by omega) (by decide) dX6_digest_205 ?_
                      have r_205 := hP j (by omega)
                      refine jw_i2l (pc := 206) C ((jI (P j)).toInt64) dX6_digest_206 rfl ?_
                      refine jw_callWV (pc := 207) C [.long (((jI (P j)).toInt64))] [] 1 (con_X6_mix lau D cI cB g co nh qk qv ns qh ql ch hd q9 q10 q11 q12 pl qp iw nw nz 0 sd qs ik kc ks kg kh k26 k27 k28 k29 k30 k31 k32 hv4 ((jI (P j)).toInt64) ) gX6_digest_X6_mix rfl rfl rfl (by decide +kernel) ⟨Nat.le_of_ble_eq_true rfl, Nat.le_of_ble_eq_true rfl⟩ 0 rfl rfl [0] [1, 2, 3, 4, 5, 6, 7, 8, 9] [9, 0, 1, 2, 3, 4, 5, 6, 7, 8] (wr := [aI cI qk 5 K, aI cI qv 5 V, aI cI qh 7 c, aI cI ql 7 d, aI cI q9 6 HH, aI cI q10 6 HO, aI cI q11 6 HL, aI cI q12 6 HW, aI cB qp 25 P]) rfl rfl (by decide) (by decide) (fun _ => rfl) (wN := fun u_207_11 => [oM g co ((nh : Nat) : Int) qk qv ((ns : Nat) : Int) qh ql ch ((hd : Nat) : Int) q9 q10 q11 q12 ((pl : Nat) : Int) qp iw nw nz ((0 : Nat) : Int) sd qs ik kc ((ks : Nat) : Int) kg ((kh : Nat) : Int) k26 k27 k28 k29 k30 k31 k32 (31 * hv4 + ((jI (P j)).toInt64)), aI cI qk 5 K, aI cI qv 5 V, aI cI qh 7 c, aI cI ql 7 d, aI cI q9 6 HH, aI cI q10 6 HO, aI cI q11 6 HL, aI cI q12 6 HW, aI cB qp 25 P]) (fun _ => rfl) (stN := fun u_207_11 => []) (fun _ => rfl) rfl (Nat.le_of_ble_eq_true rfl) rfl dX6_digest_207 (fun u_207_11 hu_207_11 => ?_)
                      refine jw_iinc (pc := 210) (z := ((j + 1 : Nat) : Int)) (lv' := [(1, .int (jI ((j + 1 : Nat) : Int))), (0, .ref g)]) C dX6_digest_210 1 rfl (by omega) (by decide) rfl ?_
                      refine jw_goto (pc := 213) (tgt := 191) C dX6_digest_213 (by decide) ?_
                      refine jw_lv [1, 0] rfl ?_
                      exact ih_7 (j + 1) (31 * hv4 + ((jI (P j)).toInt64)) (by omega) (by rw [hhv4]; exact sp_mf_s (a := P)) (by omega)
                refine jw_lv [1, 0] rfl ?_
                exact lp_191_6 ((pl - 0) + 1) 0 hq (by omega) (by rw [hhq]; rfl) (Nat.lt_succ_self _)
              refine jw_aload_n (pc := 99) C dX6_digest_99 0 rfl ?_
              refine jw_get (pc := 100) C hi_X6_digest_X6 0 rfl rfl 1 (by decide) fl_X6_digest_94 rfl rfl dX6_digest_100 ?_
              refine jw_if_le (pc := 103) (tgt := 189) C dX6_digest_103 (by decide) (by omega) (fun c_103 => ?_) (fun c_103 => ?_)
              · -- 103 t
                refine jw_lv [0] rfl ?_
                exact jn_189_5 hv2 SH SL (by first | (rw [if_pos (by omega)]; exact sp_dg2_e hhA hhB hhC hhD) | (rw [if_neg (by omega), hhv2, show e2 = ns by omega]; rfl)) (by first | exact (fun _ _ => rfl) | exact hp4.1) (by first | exact (fun _ _ => rfl) | exact hp4.2)
              · -- 103 f
                refine jw_iconst (pc := 106) C dX6_digest_106 ?_
                refine jw_istore_n (pc := 107) (lv' := [(1, .int (jI 0)), (0, .ref g)]) C dX6_digest_107 (by decide) rfl ?_
                have lp_108_12 : ∀ (fu : Nat) (i : Nat) (hv3 : Int64), (i ≤ 12) → (hv3 = sp_mf (fun q => sp_cap ((sp_sum SH SL (ns + 0)) q)) i (sp_dg1 nh ns K V (sp_sum SH SL (ns + 0)) SH SL)) → 12 - i < fu → jW X 108 [(0, .ref g), (1, .int (jI ((i : Nat) : Int)))] [] [oM g co ((nh : Nat) : Int) qk qv ((ns : Nat) : Int) qh ql ch ((hd : Nat) : Int) q9 q10 q11 q12 ((pl : Nat) : Int) qp iw nw nz ((0 : Nat) : Int) sd qs ik kc ((ks : Nat) : Int) kg ((kh : Nat) : Int) k26 k27 k28 k29 k30 k31 k32 hv3, aI cI qk 5 K, aI cI qv 5 V, aI cI qh 7 SH, aI cI ql 7 SL, aI cI q9 6 HH, aI cI q10 6 HO, aI cI q11 6 HL, aI cI q12 6 HW, aI cB qp 25 P] := by
                  intro fu
                  induction fu with
                  | zero => intro i hv3 hi hhv3 hm; exact absurd hm (Nat.not_lt_zero _)
                  | succ fu ih_13 =>
                    intro i hv3 hi hhv3 hm
                    refine jw_iload_n (pc := 108) C dX6_digest_108 1 rfl ?_
                    refine jw_bipush (pc := 109) C dX6_digest_109 (by decide +kernel) ?_
                    refine jw_icmp_ge (pc := 111) (tgt := 130) C dX6_digest_111 (by decide) (by omega) (by omega) (fun c_111 => ?_) (fun c_111 => ?_)
                    · -- 111 t
                      have jn_148_14 : ∀ (hvA : Int64), (hvA = sp_mix (sp_mf (fun q => sp_cap ((sp_sum SH SL (ns + 0)) q)) 12 (sp_dg1 nh ns K V (sp_sum SH SL (ns + 0)) SH SL)) (sp_dn K V (sp_sum SH SL (ns + 0)) nh (2 ^ nh - 1) 2)) → jW X 148 [(0, .ref g), (1, .int (jI ((i : Nat) : Int)))] [] [oM g co ((nh : Nat) : Int) qk qv ((ns : Nat) : Int) qh ql ch ((hd : Nat) : Int) q9 q10 q11 q12 ((pl : Nat) : Int) qp iw nw nz ((0 : Nat) : Int) sd qs ik kc ((ks : Nat) : Int) kg ((kh : Nat) : Int) k26 k27 k28 k29 k30 k31 k32 hvA, aI cI qk 5 K, aI cI qv 5 V, aI cI qh 7 SH, aI cI ql 7 SL, aI cI q9 6 HH, aI cI q10 6 HO, aI cI q11 6 HL, aI cI q12 6 HW, aI cB qp 25 P] := by
                        intro hvA hhA
                        have jn_159_15 : ∀ (hvB : Int64) (c1 : Nat → Int) (d1 : Nat → Int), (hvB = sp_mix hvA (sp_bh K V (sp_sum SH SL (ns + 0)) nh 5 10)) → (∀ y, y < ns → c1 y = SH y) → (∀ y, y < ns → d1 y = SL y) → jW X 159 [(0, .ref g), (1, .int (jI ((i : Nat) : Int)))] [] [oM g co ((nh : Nat) : Int) qk qv ((ns : Nat) : Int) qh ql ch ((hd : Nat) : Int) q9 q10 q11 q12 ((pl : Nat) : Int) qp iw nw nz ((0 : Nat) : Int) sd qs ik kc ((ks : Nat) : Int) kg ((kh : Nat) : Int) k26 k27 k28 k29 k30 k31 k32 hvB, aI cI qk 5 K, aI cI qv 5 V, aI cI qh 7 c1, aI cI ql 7 d1, aI cI q9 6 HH, aI cI q10 6 HO, aI cI q11 6 HL, aI cI q12 6 HW, aI cB qp 25 P] := by
                          intro hvB c1 d1 hhB pc1 pd1
                          have jn_170_16 : ∀ (hvC : Int64) (c2 : Nat → Int) (d2 : Nat → Int), (hvC = sp_mix hvB (sp_bm K V (sp_sum SH SL (ns + 0)) nh 5 10)) → (∀ y, y < ns → c2 y = SH y) → (∀ y, y < ns → d2 y = SL y) → jW X 170 [(0, .ref g), (1, .int (jI ((i : Nat) : Int)))] [] [oM g co ((nh : Nat) : Int) qk qv ((ns : Nat) : Int) qh ql ch ((hd : Nat) : Int) q9 q10 q11 q12 ((pl : Nat) : Int) qp iw nw nz ((0 : Nat) : Int) sd qs ik kc ((ks : Nat) : Int) kg ((kh : Nat) : Int) k26 k27 k28 k29 k30 k31 k32 hvC, aI cI qk 5 K, aI cI qv 5 V, aI cI qh 7 c2, aI cI ql 7 d2, aI cI q9 6 HH, aI cI q10 6 HO, aI cI q11 6 HL, aI cI q12 6 HW, aI cB qp 25 P] := by
                            intro hvC c2 d2 hhC pc2 pd2
                            have jn_179_17 : ∀ (hvD : Int64) (c3 : Nat → Int) (d3 : Nat → Int), (hvD = sp_mix hvC ((sp_hrs K V (sp_sum SH SL (ns + 0)) HH HO HL HW hd : Nat) : Int)) → (∀ y, y < ns → c3 y = SH y) → (∀ y, y < ns → d3 y = SL y) → jW X 179 [(0, .ref g), (1, .int (jI ((i : Nat) : Int)))] [] [oM g co ((nh : Nat) : Int) qk qv ((ns : Nat) : Int) qh ql ch ((hd : Nat) : Int) q9 q10 q11 q12 ((pl : Nat) : Int) qp iw nw nz ((0 : Nat) : Int) sd qs ik kc ((ks : Nat) : Int) kg ((kh : Nat) : Int) k26 k27 k28 k29 k30 k31 k32 hvD, aI cI qk 5 K, aI cI qv 5 V, aI cI qh 7 c3, aI cI ql 7 d3, aI cI q9 6 HH, aI cI q10 6 HO, aI cI q11 6 HL, aI cI q12 6 HW, aI cB qp 25 P] := by
                              intro hvD c3 d3 hhD pc3 pd3
                              refine jw_aload_n (pc := 179) C dX6_digest_179 0 rfl ?_
                              refine jw_aload_n (pc := 180) C dX6_digest_180 0 rfl ?_
                              refine jw_iconst (pc := 181) C dX6_digest_181 ?_
                              refine jw_callWV (pc := 182) C [.int (jI ((4 : Nat) : Int))] [.ref g] 1 (con_X6_askNow lau D cI cB g co nh qk qv ns qh ql ch hd q9 q10 q11 q12 pl qp iw nw nz sd qs ik kc ks kg kh k26 k27 k28 k29 k30 k31 k32 hvD K V c3 d3 HH HO HL HW 4 (by omega) (by omega) (by omega) (sp_bcd hS pc3 pd3) hK hV hH (by omega)) gX6_digest_X6_askNow rfl rfl rfl (by decide +kernel) ⟨Nat.le_of_ble_eq_true rfl, Nat.le_of_ble_eq_true rfl⟩ 0 rfl rfl [0, 1, 2, 3, 4, 5, 6, 7, 8] [9] [1, 2, 3, 4, 5, 6, 7, 8, 9, 0] (wr := [aI cB qp 25 P]) rfl rfl (by decide) (by decide) (fun _ => rfl) (wN := fun u_182_18 => [oM g co ((nh : Nat) : Int) qk qv ((ns : Nat) : Int) qh ql ch ((hd : Nat) : Int) q9 q10 q11 q12 ((pl : Nat) : Int) qp iw nw nz ((0 : Nat) : Int) sd qs ik kc ((ks : Nat) : Int) kg ((kh : Nat) : Int) k26 k27 k28 k29 k30 k31 k32 hvD, aI cI qk 5 K, aI cI qv 5 V, aI cI qh 7 u_182_18.1, aI cI ql 7 u_182_18.2, aI cI q9 6 HH, aI cI q10 6 HO, aI cI q11 6 HL, aI cI q12 6 HW, aI cB qp 25 P]) (fun _ => rfl) (stN := fun u_182_18 => [.int (jI (sp_askv K V (sp_sum c3 d3 (ns + 0)) nh (sp_hrs K V (sp_sum c3 d3 (ns + 0)) HH HO HL HW hd) hd (HL (hd - 1)) 4)), .ref g]) (fun _ => rfl) rfl (Nat.le_of_ble_eq_true rfl) rfl dX6_digest_182 (fun u_182_18 hu_182_18 => ?_)
                              (try dsimp only at hu_182_18)
                              have hp4 : (∀ j, j < ns → u_182_18.1 j = SH j) ∧ (∀ j, j < ns → u_182_18.2 j = SL j) := ⟨fun j hj => (hu_182_18.1 j hj).trans (pc3 j hj), fun j hj => (hu_182_18.2 j hj).trans (pd3 j hj)⟩
                              have eR3 := sp_sum_congr (n := ns + 0) pc3 pd3
                              refine jw_top (y := jI (sp_askv K V (sp_sum SH SL (ns + 0)) nh (sp_hrs K V (sp_sum SH SL (ns + 0)) HH HO HL HW hd) hd (HL (hd - 1)) 4)) (congrArg jI (by rw [eR3])) ?_
                              refine jw_i2l (pc := 185) C ((jI (sp_askv K V (sp_sum SH SL (ns + 0)) nh (sp_hrs K V (sp_sum SH SL (ns + 0)) HH HO HL HW hd) hd (HL (hd - 1)) 4)).toInt64) dX6_digest_185 rfl ?_
                              refine jw_callWV (pc := 186) C [.long (((jI (sp_askv K V (sp_sum SH SL (ns + 0)) nh (sp_hrs K V (sp_sum SH SL (ns + 0)) HH HO HL HW hd) hd (HL (hd - 1)) 4)).toInt64))] [] 1 (con_X6_mix lau D cI cB g co nh qk qv ns qh ql ch hd q9 q10 q11 q12 pl qp iw nw nz 0 sd qs ik kc ks kg kh k26 k27 k28 k29 k30 k31 k32 hvD ((jI (sp_askv K V (sp_sum SH SL (ns + 0)) nh (sp_hrs K V (sp_sum SH SL (ns + 0)) HH HO HL HW hd) hd (HL (hd - 1)) 4)).toInt64) ) gX6_digest_X6_mix rfl rfl rfl (by decide +kernel) ⟨Nat.le_of_ble_eq_true rfl, Nat.le_of_ble_eq_true rfl⟩ 0 rfl rfl [0] [1, 2, 3, 4, 5, 6, 7, 8, 9] [9, 0, 1, 2, 3, 4, 5, 6, 7, 8] (wr := [aI cI qk 5 K, aI cI qv 5 V, aI cI qh 7 u_182_18.1, aI cI ql 7 u_182_18.2, aI cI q9 6 HH, aI cI q10 6 HO, aI cI q11 6 HL, aI cI q12 6 HW, aI cB qp 25 P]) rfl rfl (by decide) (by decide) (fun _ => rfl) (wN := fun u_186_19 => [oM g co ((nh : Nat) : Int) qk qv ((ns : Nat) : Int) qh ql ch ((hd : Nat) : Int) q9 q10 q11 q12 ((pl : Nat) : Int) qp iw nw nz ((0 : Nat) : Int) sd qs ik kc ((ks : Nat) : Int) kg ((kh : Nat) : Int) k26 k27 k28 k29 k30 k31 k32 (31 * hvD + ((jI (sp_askv K V (sp_sum SH SL (ns + 0)) nh (sp_hrs K V (sp_sum SH SL (ns + 0)) HH HO HL HW hd) hd (HL (hd - 1)) 4)).toInt64)), aI cI qk 5 K, aI cI qv 5 V, aI cI qh 7 u_182_18.1, aI cI ql 7 u_182_18.2, aI cI q9 6 HH, aI cI q10 6 HO, aI cI q11 6 HL, aI cI q12 6 HW, aI cB qp 25 P]) (fun _ => rfl) (stN := fun u_186_19 => []) (fun _ => rfl) rfl (Nat.le_of_ble_eq_true rfl) rfl dX6_digest_186 (fun u_186_19 hu_186_19 => ?_)
                              refine jw_lv [0] rfl ?_
                              exact jn_189_5 (31 * hvD + ((jI (sp_askv K V (sp_sum SH SL (ns + 0)) nh (sp_hrs K V (sp_sum SH SL (ns + 0)) HH HO HL HW hd) hd (HL (hd - 1)) 4)).toInt64)) u_182_18.1 u_182_18.2 (by first | (rw [if_pos (by omega)]; exact sp_dg2_e hhA hhB hhC hhD) | (rw [if_neg (by omega), hhv2, show e2 = ns by omega]; rfl)) (by first | exact (fun _ _ => rfl) | exact hp4.1) (by first | exact (fun _ _ => rfl) | exact hp4.2)
                            refine jw_aload_n (pc := 170) C dX6_digest_170 0 rfl ?_
                            refine jw_aload_n (pc := 171) C dX6_digest_171 0 rfl ?_
                            refine jw_callWV (pc := 172) C [] [.ref g] 0 (con_X6_hoursNow lau D cI cB g co nh qk qv ns qh ql ch hd q9 q10 q11 q12 pl qp iw nw nz sd qs ik kc ks kg kh k26 k27 k28 k29 k30 k31 k32 hvC K V c2 d2 HH HO HL HW (by omega) (by omega) (by omega) (sp_bcd hS pc2 pd2) hK hV hH) gX6_digest_X6_hoursNow rfl rfl rfl (by decide +kernel) ⟨Nat.le_of_ble_eq_true rfl, Nat.le_of_ble_eq_true rfl⟩ 0 rfl rfl [0, 1, 2, 3, 4, 5, 6, 7, 8] [9] [1, 2, 3, 4, 5, 6, 7, 8, 9, 0] (wr := [aI cB qp 25 P]) rfl rfl (by decide) (by decide) (fun _ => rfl) (wN := fun u_172_20 => [oM g co ((nh : Nat) : Int) qk qv ((ns : Nat) : Int) qh ql ch ((hd : Nat) : Int) q9 q10 q11 q12 ((pl : Nat) : Int) qp iw nw nz ((0 : Nat) : Int) sd qs ik kc ((ks : Nat) : Int) kg ((kh : Nat) : Int) k26 k27 k28 k29 k30 k31 k32 hvC, aI cI qk 5 K, aI cI qv 5 V, aI cI qh 7 u_172_20.1, aI cI ql 7 u_172_20.2, aI cI q9 6 HH, aI cI q10 6 HO, aI cI q11 6 HL, aI cI q12 6 HW, aI cB qp 25 P]) (fun _ => rfl) (stN := fun u_172_20 => [.int (jI ((sp_hrs K V (sp_sum c2 d2 (ns + 0)) HH HO HL HW hd : Nat) : Int)), .ref g]) (fun _ => rfl) rfl (Nat.le_of_ble_eq_true rfl) rfl dX6_digest_172 (fun u_172_20 hu_172_20 => ?_)
                            (try dsimp only at hu_172_20)
                            have hp3 : (∀ j, j < ns → u_172_20.1 j = SH j) ∧ (∀ j, j < ns → u_172_20.2 j = SL j) := ⟨fun j hj => (hu_172_20.1 j hj).trans (pc2 j hj), fun j hj => (hu_172_20.2 j hj).trans (pd2 j hj)⟩
                            have eR2 := sp_sum_congr (n := ns + 0) pc2 pd2
                            refine jw_top (y := jI (((sp_hrs K V (sp_sum SH SL (ns + 0)) HH HO HL HW hd : Nat) : Int))) (congrArg jI (by rw [eR2])) ?_
                            refine jw_i2l (pc := 175) C ((jI (((sp_hrs K V (sp_sum SH SL (ns + 0)) HH HO HL HW hd : Nat) : Int))).toInt64) dX6_digest_175 rfl ?_
                            refine jw_callWV (pc := 176) C [.long (((jI (((sp_hrs K V (sp_sum SH SL (ns + 0)) HH HO HL HW hd : Nat) : Int))).toInt64))] [] 1 (con_X6_mix lau D cI cB g co nh qk qv ns qh ql ch hd q9 q10 q11 q12 pl qp iw nw nz 0 sd qs ik kc ks kg kh k26 k27 k28 k29 k30 k31 k32 hvC ((jI (((sp_hrs K V (sp_sum SH SL (ns + 0)) HH HO HL HW hd : Nat) : Int))).toInt64) ) gX6_digest_X6_mix rfl rfl rfl (by decide +kernel) ⟨Nat.le_of_ble_eq_true rfl, Nat.le_of_ble_eq_true rfl⟩ 0 rfl rfl [0] [1, 2, 3, 4, 5, 6, 7, 8, 9] [9, 0, 1, 2, 3, 4, 5, 6, 7, 8] (wr := [aI cI qk 5 K, aI cI qv 5 V, aI cI qh 7 u_172_20.1, aI cI ql 7 u_172_20.2, aI cI q9 6 HH, aI cI q10 6 HO, aI cI q11 6 HL, aI cI q12 6 HW, aI cB qp 25 P]) rfl rfl (by decide) (by decide) (fun _ => rfl) (wN := fun u_176_21 => [oM g co ((nh : Nat) : Int) qk qv ((ns : Nat) : Int) qh ql ch ((hd : Nat) : Int) q9 q10 q11 q12 ((pl : Nat) : Int) qp iw nw nz ((0 : Nat) : Int) sd qs ik kc ((ks : Nat) : Int) kg ((kh : Nat) : Int) k26 k27 k28 k29 k30 k31 k32 (31 * hvC + ((jI (((sp_hrs K V (sp_sum SH SL (ns + 0)) HH HO HL HW hd : Nat) : Int))).toInt64)), aI cI qk 5 K, aI cI qv 5 V, aI cI qh 7 u_172_20.1, aI cI ql 7 u_172_20.2, aI cI q9 6 HH, aI cI q10 6 HO, aI cI q11 6 HL, aI cI q12 6 HW, aI cB qp 25 P]) (fun _ => rfl) (stN := fun u_176_21 => []) (fun _ => rfl) rfl (Nat.le_of_ble_eq_true rfl) rfl dX6_digest_176 (fun u_176_21 hu_176_21 => ?_)
                            refine jw_lv [0, 1] rfl ?_
                            exact jn_179_17 (31 * hvC + ((jI (((sp_hrs K V (sp_sum SH SL (ns + 0)) HH HO HL HW hd : Nat) : Int))).toInt64)) u_172_20.1 u_172_20.2 sp_mix_e hp3.1 hp3.2
                          refine jw_aload_n (pc := 159) C dX6_digest_159 0 rfl ?_
                          refine jw_aload_n (pc := 160) C dX6_digest_160 0 rfl ?_
                          refine jw_iconst (pc := 161) C dX6_digest_161 ?_
                          refine jw_iconst (pc := 162) C dX6_digest_162 ?_
                          refine jw_callWV (pc := 163) C [.int (jI 5), .int (jI 1)] [.ref g] 2 (con_X6_bestNow lau D cI cB g co nh qk qv ns qh ql ch hd q9 q10 q11 q12 pl qp iw nw nz sd qs ik kc ks kg kh k26 k27 k28 k29 k30 k31 k32 hvB K V c1 d1 5 1 (by omega) (by omega) (sp_bcd hS pc1 pd1) hK hV (by omega) (by omega)) gX6_digest_X6_bestNow rfl rfl rfl (by decide +kernel) ⟨Nat.le_of_ble_eq_true rfl, Nat.le_of_ble_eq_true rfl⟩ 0 rfl rfl [0, 1, 2, 3, 4] [5, 6, 7, 8, 9] [5, 6, 7, 8, 9, 0, 1, 2, 3, 4] (wr := [aI cI q9 6 HH, aI cI q10 6 HO, aI cI q11 6 HL, aI cI q12 6 HW, aI cB qp 25 P]) rfl rfl (by decide) (by decide) (fun _ => rfl) (wN := fun u_163_22 => [oM g co ((nh : Nat) : Int) qk qv ((ns : Nat) : Int) qh ql ch ((hd : Nat) : Int) q9 q10 q11 q12 ((pl : Nat) : Int) qp iw nw nz ((0 : Nat) : Int) sd qs ik kc ((ks : Nat) : Int) kg ((kh : Nat) : Int) k26 k27 k28 k29 k30 k31 k32 hvB, aI cI qk 5 K, aI cI qv 5 V, aI cI qh 7 u_163_22.1, aI cI ql 7 u_163_22.2, aI cI q9 6 HH, aI cI q10 6 HO, aI cI q11 6 HL, aI cI q12 6 HW, aI cB qp 25 P]) (fun _ => rfl) (stN := fun u_163_22 => [.int (jI (if 1 = 0 then sp_bh K V (sp_sum c1 d1 (ns + 0)) nh 5 10 else sp_bm K V (sp_sum c1 d1 (ns + 0)) nh 5 10)), .ref g]) (fun _ => rfl) rfl (Nat.le_of_ble_eq_true rfl) rfl dX6_digest_163 (fun u_163_22 hu_163_22 => ?_)
                          (try dsimp only at hu_163_22)
                          have hp2b : (∀ j, j < ns → u_163_22.1 j = SH j) ∧ (∀ j, j < ns → u_163_22.2 j = SL j) := ⟨fun j hj => (hu_163_22.1 j hj).trans (pc1 j hj), fun j hj => (hu_163_22.2 j hj).trans (pd1 j hj)⟩
                          have eR1 := sp_sum_congr (n := ns + 0) pc1 pd1
                          refine jw_top (y := jI (sp_bm K V (sp_sum SH SL (ns + 0)) nh 5 10)) (congrArg jI (by rw [eR1]; exact if_neg (by decide))) ?_
                          refine jw_i2l (pc := 166) C ((jI (sp_bm K V (sp_sum SH SL (ns + 0)) nh 5 10)).toInt64) dX6_digest_166 rfl ?_
                          refine jw_callWV (pc := 167) C [.long (((jI (sp_bm K V (sp_sum SH SL (ns + 0)) nh 5 10)).toInt64))] [] 1 (con_X6_mix lau D cI cB g co nh qk qv ns qh ql ch hd q9 q10 q11 q12 pl qp iw nw nz 0 sd qs ik kc ks kg kh k26 k27 k28 k29 k30 k31 k32 hvB ((jI (sp_bm K V (sp_sum SH SL (ns + 0)) nh 5 10)).toInt64) ) gX6_digest_X6_mix rfl rfl rfl (by decide +kernel) ⟨Nat.le_of_ble_eq_true rfl, Nat.le_of_ble_eq_true rfl⟩ 0 rfl rfl [0] [1, 2, 3, 4, 5, 6, 7, 8, 9] [9, 0, 1, 2, 3, 4, 5, 6, 7, 8] (wr := [aI cI qk 5 K, aI cI qv 5 V, aI cI qh 7 u_163_22.1, aI cI ql 7 u_163_22.2, aI cI q9 6 HH, aI cI q10 6 HO, aI cI q11 6 HL, aI cI q12 6 HW, aI cB qp 25 P]) rfl rfl (by decide) (by decide) (fun _ => rfl) (wN := fun u_167_23 => [oM g co ((nh : Nat) : Int) qk qv ((ns : Nat) : Int) qh ql ch ((hd : Nat) : Int) q9 q10 q11 q12 ((pl : Nat) : Int) qp iw nw nz ((0 : Nat) : Int) sd qs ik kc ((ks : Nat) : Int) kg ((kh : Nat) : Int) k26 k27 k28 k29 k30 k31 k32 (31 * hvB + ((jI (sp_bm K V (sp_sum SH SL (ns + 0)) nh 5 10)).toInt64)), aI cI qk 5 K, aI cI qv 5 V, aI cI qh 7 u_163_22.1, aI cI ql 7 u_163_22.2, aI cI q9 6 HH, aI cI q10 6 HO, aI cI q11 6 HL, aI cI q12 6 HW, aI cB qp 25 P]) (fun _ => rfl) (stN := fun u_167_23 => []) (fun _ => rfl) rfl (Nat.le_of_ble_eq_true rfl) rfl dX6_digest_167 (fun u_167_23 hu_167_23 => ?_)
                          refine jw_lv [0, 1] rfl ?_
                          exact jn_170_16 (31 * hvB + ((jI (sp_bm K V (sp_sum SH SL (ns + 0)) nh 5 10)).toInt64)) u_163_22.1 u_163_22.2 sp_mix_e hp2b.1 hp2b.2
                        refine jw_aload_n (pc := 148) C dX6_digest_148 0 rfl ?_
                        refine jw_aload_n (pc := 149) C dX6_digest_149 0 rfl ?_
                        refine jw_iconst (pc := 150) C dX6_digest_150 ?_
                        refine jw_iconst (pc := 151) C dX6_digest_151 ?_
                        refine jw_callWV (pc := 152) C [.int (jI 5), .int (jI 0)] [.ref g] 2 (con_X6_bestNow lau D cI cB g co nh qk qv ns qh ql ch hd q9 q10 q11 q12 pl qp iw nw nz sd qs ik kc ks kg kh k26 k27 k28 k29 k30 k31 k32 hvA K V SH SL 5 0 (by omega) (by omega) hS hK hV (by omega) (by omega)) gX6_digest_X6_bestNow rfl rfl rfl (by decide +kernel) ⟨Nat.le_of_ble_eq_true rfl, Nat.le_of_ble_eq_true rfl⟩ 0 rfl rfl [0, 1, 2, 3, 4] [5, 6, 7, 8, 9] [5, 6, 7, 8, 9, 0, 1, 2, 3, 4] (wr := [aI cI q9 6 HH, aI cI q10 6 HO, aI cI q11 6 HL, aI cI q12 6 HW, aI cB qp 25 P]) rfl rfl (by decide) (by decide) (fun _ => rfl) (wN := fun u_152_24 => [oM g co ((nh : Nat) : Int) qk qv ((ns : Nat) : Int) qh ql ch ((hd : Nat) : Int) q9 q10 q11 q12 ((pl : Nat) : Int) qp iw nw nz ((0 : Nat) : Int) sd qs ik kc ((ks : Nat) : Int) kg ((kh : Nat) : Int) k26 k27 k28 k29 k30 k31 k32 hvA, aI cI qk 5 K, aI cI qv 5 V, aI cI qh 7 u_152_24.1, aI cI ql 7 u_152_24.2, aI cI q9 6 HH, aI cI q10 6 HO, aI cI q11 6 HL, aI cI q12 6 HW, aI cB qp 25 P]) (fun _ => rfl) (stN := fun u_152_24 => [.int (jI (if 0 = 0 then sp_bh K V (sp_sum SH SL (ns + 0)) nh 5 10 else sp_bm K V (sp_sum SH SL (ns + 0)) nh 5 10)), .ref g]) (fun _ => rfl) rfl (Nat.le_of_ble_eq_true rfl) rfl dX6_digest_152 (fun u_152_24 hu_152_24 => ?_)
                        (try dsimp only at hu_152_24)
                        have hp1 := hu_152_24
                        refine jw_top (y := jI (sp_bh K V (sp_sum SH SL (ns + 0)) nh 5 10)) (congrArg jI (if_pos rfl)) ?_
                        refine jw_i2l (pc := 155) C ((jI (sp_bh K V (sp_sum SH SL (ns + 0)) nh 5 10)).toInt64) dX6_digest_155 rfl ?_
                        refine jw_callWV (pc := 156) C [.long (((jI (sp_bh K V (sp_sum SH SL (ns + 0)) nh 5 10)).toInt64))] [] 1 (con_X6_mix lau D cI cB g co nh qk qv ns qh ql ch hd q9 q10 q11 q12 pl qp iw nw nz 0 sd qs ik kc ks kg kh k26 k27 k28 k29 k30 k31 k32 hvA ((jI (sp_bh K V (sp_sum SH SL (ns + 0)) nh 5 10)).toInt64) ) gX6_digest_X6_mix rfl rfl rfl (by decide +kernel) ⟨Nat.le_of_ble_eq_true rfl, Nat.le_of_ble_eq_true rfl⟩ 0 rfl rfl [0] [1, 2, 3, 4, 5, 6, 7, 8, 9] [9, 0, 1, 2, 3, 4, 5, 6, 7, 8] (wr := [aI cI qk 5 K, aI cI qv 5 V, aI cI qh 7 u_152_24.1, aI cI ql 7 u_152_24.2, aI cI q9 6 HH, aI cI q10 6 HO, aI cI q11 6 HL, aI cI q12 6 HW, aI cB qp 25 P]) rfl rfl (by decide) (by decide) (fun _ => rfl) (wN := fun u_156_25 => [oM g co ((nh : Nat) : Int) qk qv ((ns : Nat) : Int) qh ql ch ((hd : Nat) : Int) q9 q10 q11 q12 ((pl : Nat) : Int) qp iw nw nz ((0 : Nat) : Int) sd qs ik kc ((ks : Nat) : Int) kg ((kh : Nat) : Int) k26 k27 k28 k29 k30 k31 k32 (31 * hvA + ((jI (sp_bh K V (sp_sum SH SL (ns + 0)) nh 5 10)).toInt64)), aI cI qk 5 K, aI cI qv 5 V, aI cI qh 7 u_152_24.1, aI cI ql 7 u_152_24.2, aI cI q9 6 HH, aI cI q10 6 HO, aI cI q11 6 HL, aI cI q12 6 HW, aI cB qp 25 P]) (fun _ => rfl) (stN := fun u_156_25 => []) (fun _ => rfl) rfl (Nat.le_of_ble_eq_true rfl) rfl dX6_digest_156 (fun u_156_25 hu_156_25 => ?_)
                        refine jw_lv [0, 1] rfl ?_
                        exact jn_159_15 (31 * hvA + ((jI (sp_bh K V (sp_sum SH SL (ns + 0)) nh 5 10)).toInt64)) u_152_24.1 u_152_24.2 sp_mix_e hp1.1 hp1.2
                      refine jw_aload_n (pc := 130) C dX6_digest_130 0 rfl ?_
                      refine jw_aload_n (pc := 131) C dX6_digest_131 0 rfl ?_
                      refine jw_iconst (pc := 132) C dX6_digest_132 ?_
                      refine jw_aload_n (pc := 133) C dX6_digest_133 0 rfl ?_
                      refine jw_get (pc := 134) C hi_X6_digest_X6 0 rfl rfl 1 (by decide) fl_X6_digest_94 rfl rfl dX6_digest_134 ?_
                      refine jw_ishl (pc := 137) C (jI ((2 ^ nh : Nat) : Int)) dX6_digest_137 (jI_shl1 nh (by omega)) ?_
                      refine jw_iconst (pc := 138) C dX6_digest_138 ?_
                      refine jw_isub (pc := 139) (z := ((2 ^ nh - 1 : Nat) : Int)) C dX6_digest_139 (by omega) ?_
                      refine jw_iconst (pc := 140) C dX6_digest_140 ?_
                      refine jw_callRV (pc := 141) C [.int (jI (((2 ^ nh - 1) : Nat) : Int)), .int (jI ((2 : Nat) : Int))] [.ref g] 2 (con_X6_dinnerNow lau D cI cB g co nh qk qv ns qh ql ch hd q9 q10 q11 q12 pl qp iw nw nz sd qs ik kc ks kg kh k26 k27 k28 k29 k30 k31 k32 hv3 K V SH SL (2 ^ nh - 1) 2 (by omega) (by omega) hS hK hV (by omega) (by omega)) gX6_digest_X6_dinnerNow rfl rfl rfl (by decide +kernel) ⟨Nat.le_of_ble_eq_true rfl, Nat.le_of_ble_eq_true rfl⟩ 0 rfl rfl [0, 1, 2, 3, 4] rfl rfl (Nat.le_of_ble_eq_true rfl) rfl dX6_digest_141 ?_
                      refine jw_i2l (pc := 144) C ((jI (sp_dn K V (sp_sum SH SL (ns + 0)) nh (2 ^ nh - 1) 2)).toInt64) dX6_digest_144 rfl ?_
                      refine jw_callWV (pc := 145) C [.long (((jI (sp_dn K V (sp_sum SH SL (ns + 0)) nh (2 ^ nh - 1) 2)).toInt64))] [] 1 (con_X6_mix lau D cI cB g co nh qk qv ns qh ql ch hd q9 q10 q11 q12 pl qp iw nw nz 0 sd qs ik kc ks kg kh k26 k27 k28 k29 k30 k31 k32 hv3 ((jI (sp_dn K V (sp_sum SH SL (ns + 0)) nh (2 ^ nh - 1) 2)).toInt64) ) gX6_digest_X6_mix rfl rfl rfl (by decide +kernel) ⟨Nat.le_of_ble_eq_true rfl, Nat.le_of_ble_eq_true rfl⟩ 0 rfl rfl [0] [1, 2, 3, 4, 5, 6, 7, 8, 9] [9, 0, 1, 2, 3, 4, 5, 6, 7, 8] (wr := [aI cI qk 5 K, aI cI qv 5 V, aI cI qh 7 SH, aI cI ql 7 SL, aI cI q9 6 HH, aI cI q10 6 HO, aI cI q11 6 HL, aI cI q12 6 HW, aI cB qp 25 P]) rfl rfl (by decide) (by decide) (fun _ => rfl) (wN := fun u_145_26 => [oM g co ((nh : Nat) : Int) qk qv ((ns : Nat) : Int) qh ql ch ((hd : Nat) : Int) q9 q10 q11 q12 ((pl : Nat) : Int) qp iw nw nz ((0 : Nat) : Int) sd qs ik kc ((ks : Nat) : Int) kg ((kh : Nat) : Int) k26 k27 k28 k29 k30 k31 k32 (31 * hv3 + ((jI (sp_dn K V (sp_sum SH SL (ns + 0)) nh (2 ^ nh - 1) 2)).toInt64)), aI cI qk 5 K, aI cI qv 5 V, aI cI qh 7 SH, aI cI ql 7 SL, aI cI q9 6 HH, aI cI q10 6 HO, aI cI q11 6 HL, aI cI q12 6 HW, aI cB qp 25 P]) (fun _ => rfl) (stN := fun u_145_26 => []) (fun _ => rfl) rfl (Nat.le_of_ble_eq_true rfl) rfl dX6_digest_145 (fun u_145_26 hu_145_26 => ?_)
                      refine jw_lv [0, 1] rfl ?_
                      exact jn_148_14 (31 * hv3 + ((jI (sp_dn K V (sp_sum SH SL (ns + 0)) nh (2 ^ nh - 1) 2)).toInt64)) (by rw [hhv3, show i = 12 by omega]; exact sp_mix_e)
                    · -- 111 f
                      refine jw_aload_n (pc := 114) C dX6_digest_114 0 rfl ?_
                      refine jw_aload_n (pc := 115) C dX6_digest_115 0 rfl ?_
                      refine jw_iload_n (pc := 116) C dX6_digest_116 1 rfl ?_
                      refine jw_callRV (pc := 117) C [.int (jI ((i : Nat) : Int))] [.ref g] 1 (con_X6_tideAt lau D cI cB g co nh qk qv ns qh ql ch hd q9 q10 q11 q12 pl qp iw nw nz 0 sd qs ik kc ks kg kh k26 k27 k28 k29 k30 k31 k32 hv3 SH SL i (by omega) (by omega) hS (by omega)) gX6_digest_X6_tideAt rfl rfl rfl (by decide +kernel) ⟨Nat.le_of_ble_eq_true rfl, Nat.le_of_ble_eq_true rfl⟩ 0 rfl rfl [0, 3, 4] rfl rfl (Nat.le_of_ble_eq_true rfl) rfl dX6_digest_117 ?_
                      have b_117_0 := (show 0 ≤ sp_cap (sp_sum SH SL (ns + 0) i) ∧ sp_cap (sp_sum SH SL (ns + 0) i) ≤ 20 from sp_cap_b (sp_sum_b (ns + 0) (fun y hy => (hS y hy).2.2) i).1)
                      refine jw_i2l (pc := 120) C ((jI (sp_cap ((sp_sum SH SL (ns + 0)) i))).toInt64) dX6_digest_120 rfl ?_
                      refine jw_callWV (pc := 121) C [.long (((jI (sp_cap ((sp_sum SH SL (ns + 0)) i))).toInt64))] [] 1 (con_X6_mix lau D cI cB g co nh qk qv ns qh ql ch hd q9 q10 q11 q12 pl qp iw nw nz 0 sd qs ik kc ks kg kh k26 k27 k28 k29 k30 k31 k32 hv3 ((jI (sp_cap ((sp_sum SH SL (ns + 0)) i))).toInt64) ) gX6_digest_X6_mix rfl rfl rfl (by decide +kernel) ⟨Nat.le_of_ble_eq_true rfl, Nat.le_of_ble_eq_true rfl⟩ 0 rfl rfl [0] [1, 2, 3, 4, 5, 6, 7, 8, 9] [9, 0, 1, 2, 3, 4, 5, 6, 7, 8] (wr := [aI cI qk 5 K, aI cI qv 5 V, aI cI qh 7 SH, aI cI ql 7 SL, aI cI q9 6 HH, aI cI q10 6 HO, aI cI q11 6 HL, aI cI q12 6 HW, aI cB qp 25 P]) rfl rfl (by decide) (by decide) (fun _ => rfl) (wN := fun u_121_27 => [oM g co ((nh : Nat) : Int) qk qv ((ns : Nat) : Int) qh ql ch ((hd : Nat) : Int) q9 q10 q11 q12 ((pl : Nat) : Int) qp iw nw nz ((0 : Nat) : Int) sd qs ik kc ((ks : Nat) : Int) kg ((kh : Nat) : Int) k26 k27 k28 k29 k30 k31 k32 (31 * hv3 + ((jI (sp_cap ((sp_sum SH SL (ns + 0)) i))).toInt64)), aI cI qk 5 K, aI cI qv 5 V, aI cI qh 7 SH, aI cI ql 7 SL, aI cI q9 6 HH, aI cI q10 6 HO, aI cI q11 6 HL, aI cI q12 6 HW, aI cB qp 25 P]) (fun _ => rfl) (stN := fun u_121_27 => []) (fun _ => rfl) rfl (Nat.le_of_ble_eq_true rfl) rfl dX6_digest_121 (fun u_121_27 hu_121_27 => ?_)
                      refine jw_iinc (pc := 124) (z := ((i + 1 : Nat) : Int)) (lv' := [(1, .int (jI ((i + 1 : Nat) : Int))), (0, .ref g)]) C dX6_digest_124 1 rfl (by omega) (by decide) rfl ?_
                      refine jw_goto (pc := 127) (tgt := 108) C dX6_digest_127 (by decide) ?_
                      refine jw_lv [1, 0] rfl ?_
                      exact ih_13 (i + 1) (31 * hv3 + ((jI (sp_cap ((sp_sum SH SL (ns + 0)) i))).toInt64)) (by omega) (by rw [hhv3]; exact sp_mf_s (a := fun q => sp_cap ((sp_sum SH SL (ns + 0)) q))) (by omega)
                refine jw_lv [1, 0] rfl ?_
                exact lp_108_12 ((12 - 0) + 1) 0 hv2 (by omega) (by rw [hhv2, show e2 = ns by omega]; rfl) (Nat.lt_succ_self _)
            · -- 66 f
              refine jw_iconst (pc := 69) C dX6_digest_69 ?_
              refine jw_istore_n (pc := 70) (lv' := [(2, .int (jI 0)), (0, .ref g), (1, .int (jI ((e2 : Nat) : Int)))]) C dX6_digest_70 (by decide) rfl ?_
              have lp_71_28 : ∀ (fu : Nat) (w2 : Nat) (h2v : Int64), (w2 ≤ 3) → (h2v = sp_mf (fun q => sp_sA SH SL e2 ((q : Nat) : Int)) w2 hv2) → 3 - w2 < fu → jW X 71 [(0, .ref g), (1, .int (jI ((e2 : Nat) : Int))), (2, .int (jI ((w2 : Nat) : Int)))] [] [oM g co ((nh : Nat) : Int) qk qv ((ns : Nat) : Int) qh ql ch ((hd : Nat) : Int) q9 q10 q11 q12 ((pl : Nat) : Int) qp iw nw nz ((0 : Nat) : Int) sd qs ik kc ((ks : Nat) : Int) kg ((kh : Nat) : Int) k26 k27 k28 k29 k30 k31 k32 h2v, aI cI qk 5 K, aI cI qv 5 V, aI cI qh 7 SH, aI cI ql 7 SL, aI cI q9 6 HH, aI cI q10 6 HO, aI cI q11 6 HL, aI cI q12 6 HW, aI cB qp 25 P] := by
                intro fu
                induction fu with
                | zero => intro w2 h2v hw3 hh2 hm; exact absurd hm (Nat.not_lt_zero _)
                | succ fu ih_29 =>
                  intro w2 h2v hw3 hh2 hm
                  refine jw_iload_n (pc := 71) C dX6_digest_71 2 rfl ?_
                  refine jw_iconst (pc := 72) C dX6_digest_72 ?_
                  refine jw_icmp_ge (pc := 73) (tgt := 93) C dX6_digest_73 (by decide) (by omega) (by omega) (fun c_73 => ?_) (fun c_73 => ?_)
                  · -- 73 t
                    refine jw_iinc (pc := 93) (z := ((e2 + 1 : Nat) : Int)) (lv' := [(1, .int (jI ((e2 + 1 : Nat) : Int))), (0, .ref g), (2, .int (jI ((w2 : Nat) : Int)))]) C dX6_digest_93 1 rfl (by omega) (by decide) rfl ?_
                    refine jw_goto (pc := 96) (tgt := 61) C dX6_digest_96 (by decide) ?_
                    refine jw_lv [1, 0] rfl ?_
                    exact ih_4 (e2 + 1) h2v (by omega) (by rw [hh2, show w2 = 3 by omega, hhv2]; exact sp_dgs_3 (A := sp_sA SH SL)) (by omega)
                  · -- 73 f
                    refine jw_aload_n (pc := 76) C dX6_digest_76 0 rfl ?_
                    refine jw_aload_n (pc := 77) C dX6_digest_77 0 rfl ?_
                    refine jw_iload_n (pc := 78) C dX6_digest_78 1 rfl ?_
                    refine jw_iload_n (pc := 79) C dX6_digest_79 2 rfl ?_
                    refine jw_callRV (pc := 80) C [.int (jI ((e2 : Nat) : Int)), .int (jI ((((w2 : Nat) : Int))))] [.ref g] 2 (con_X6_strokeNow lau D cI cB g co nh qk qv ns qh ql ch hd q9 q10 q11 q12 pl qp iw nw nz 0 sd qs ik kc ks kg kh k26 k27 k28 k29 k30 k31 k32 h2v SH SL e2 (((w2 : Nat) : Int)) (by omega) (by omega) (by have := hS e2 (by omega); omega) (by omega)) gX6_digest_X6_strokeNow rfl rfl rfl (by decide +kernel) ⟨Nat.le_of_ble_eq_true rfl, Nat.le_of_ble_eq_true rfl⟩ 0 rfl rfl [0, 3, 4] rfl rfl (Nat.le_of_ble_eq_true rfl) rfl dX6_digest_80 ?_
                    refine jw_top (y := jI (sp_sA SH SL e2 ((w2 : Nat) : Int))) (congrArg jI rfl) ?_
                    refine jw_i2l (pc := 83) C ((jI (sp_sA SH SL e2 ((w2 : Nat) : Int))).toInt64) dX6_digest_83 rfl ?_
                    refine jw_callWV (pc := 84) C [.long (((jI (sp_sA SH SL e2 ((w2 : Nat) : Int))).toInt64))] [] 1 (con_X6_mix lau D cI cB g co nh qk qv ns qh ql ch hd q9 q10 q11 q12 pl qp iw nw nz 0 sd qs ik kc ks kg kh k26 k27 k28 k29 k30 k31 k32 h2v ((jI (sp_sA SH SL e2 ((w2 : Nat) : Int))).toInt64) ) gX6_digest_X6_mix rfl rfl rfl (by decide +kernel) ⟨Nat.le_of_ble_eq_true rfl, Nat.le_of_ble_eq_true rfl⟩ 0 rfl rfl [0] [1, 2, 3, 4, 5, 6, 7, 8, 9] [9, 0, 1, 2, 3, 4, 5, 6, 7, 8] (wr := [aI cI qk 5 K, aI cI qv 5 V, aI cI qh 7 SH, aI cI ql 7 SL, aI cI q9 6 HH, aI cI q10 6 HO, aI cI q11 6 HL, aI cI q12 6 HW, aI cB qp 25 P]) rfl rfl (by decide) (by decide) (fun _ => rfl) (wN := fun u_84_30 => [oM g co ((nh : Nat) : Int) qk qv ((ns : Nat) : Int) qh ql ch ((hd : Nat) : Int) q9 q10 q11 q12 ((pl : Nat) : Int) qp iw nw nz ((0 : Nat) : Int) sd qs ik kc ((ks : Nat) : Int) kg ((kh : Nat) : Int) k26 k27 k28 k29 k30 k31 k32 (31 * h2v + ((jI (sp_sA SH SL e2 ((w2 : Nat) : Int))).toInt64)), aI cI qk 5 K, aI cI qv 5 V, aI cI qh 7 SH, aI cI ql 7 SL, aI cI q9 6 HH, aI cI q10 6 HO, aI cI q11 6 HL, aI cI q12 6 HW, aI cB qp 25 P]) (fun _ => rfl) (stN := fun u_84_30 => []) (fun _ => rfl) rfl (Nat.le_of_ble_eq_true rfl) rfl dX6_digest_84 (fun u_84_30 hu_84_30 => ?_)
                    refine jw_iinc (pc := 87) (z := ((w2 + 1 : Nat) : Int)) (lv' := [(2, .int (jI ((w2 + 1 : Nat) : Int))), (0, .ref g), (1, .int (jI ((e2 : Nat) : Int)))]) C dX6_digest_87 2 rfl (by omega) (by decide) rfl ?_
                    refine jw_goto (pc := 90) (tgt := 71) C dX6_digest_90 (by decide) ?_
                    refine jw_lv [1, 2, 0] rfl ?_
                    exact ih_29 (w2 + 1) (31 * h2v + ((jI (sp_sA SH SL e2 ((w2 : Nat) : Int))).toInt64)) (by omega) (by rw [hh2]; exact sp_mf_s (a := fun q => sp_sA SH SL e2 ((q : Nat) : Int))) (by omega)
              refine jw_lv [1, 2, 0] rfl ?_
              exact lp_71_28 ((3 - 0) + 1) 0 hv2 (by omega) rfl (Nat.lt_succ_self _)
        refine jw_lv [1, 0] rfl ?_
        exact lp_61_3 ((ns - 0) + 1) 0 hv (by omega) (by rw [hhv, show e = nh by omega]; rfl) (Nat.lt_succ_self _)
      · -- 14 f
        refine jw_iconst (pc := 17) C dX6_digest_17 ?_
        refine jw_istore_n (pc := 18) (lv' := [(2, .int (jI 0)), (0, .ref g), (1, .int (jI ((e : Nat) : Int)))]) C dX6_digest_18 (by decide) rfl ?_
        have lp_19_31 : ∀ (fu : Nat) (w : Nat) (h1 : Int64), (w ≤ 22) → (h1 = sp_in (fun q => sp_hA K V (sp_sum SH SL (ns + 0)) e q) hv w) → 22 - w < fu → jW X 19 [(0, .ref g), (1, .int (jI ((e : Nat) : Int))), (2, .int (jI ((w : Nat) : Int)))] [] [oM g co ((nh : Nat) : Int) qk qv ((ns : Nat) : Int) qh ql ch ((hd : Nat) : Int) q9 q10 q11 q12 ((pl : Nat) : Int) qp iw nw nz ((0 : Nat) : Int) sd qs ik kc ((ks : Nat) : Int) kg ((kh : Nat) : Int) k26 k27 k28 k29 k30 k31 k32 h1, aI cI qk 5 K, aI cI qv 5 V, aI cI qh 7 SH, aI cI ql 7 SL, aI cI q9 6 HH, aI cI q10 6 HO, aI cI q11 6 HL, aI cI q12 6 HW, aI cB qp 25 P] := by
          intro fu
          induction fu with
          | zero => intro w h1 hw22 hh1 hm; exact absurd hm (Nat.not_lt_zero _)
          | succ fu ih_32 =>
            intro w h1 hw22 hh1 hm
            refine jw_iload_n (pc := 19) C dX6_digest_19 2 rfl ?_
            refine jw_bipush (pc := 20) C dX6_digest_20 (by decide +kernel) ?_
            refine jw_icmp_ge (pc := 22) (tgt := 53) C dX6_digest_22 (by decide) (by omega) (by omega) (fun c_22 => ?_) (fun c_22 => ?_)
            · -- 22 t
              refine jw_iinc (pc := 53) (z := ((e + 1 : Nat) : Int)) (lv' := [(1, .int (jI ((e + 1 : Nat) : Int))), (0, .ref g), (2, .int (jI ((w : Nat) : Int)))]) C dX6_digest_53 1 rfl (by omega) (by decide) rfl ?_
              refine jw_goto (pc := 56) (tgt := 9) C dX6_digest_56 (by decide) ?_
              refine jw_lv [1, 0] rfl ?_
              exact ih_2 (e + 1) h1 (by omega) (by rw [hh1, show w = 22 by omega, hhv]; exact sp_dgh_in (A := sp_hA K V (sp_sum SH SL (ns + 0)))) (by omega)
            · -- 22 f
              refine jw_iload_n (pc := 25) C dX6_digest_25 2 rfl ?_
              refine jw_iconst (pc := 26) C dX6_digest_26 ?_
              refine jw_icmp_lt (pc := 27) (tgt := 36) C dX6_digest_27 (by decide) (by omega) (by omega) (fun c_27 => ?_) (fun c_27 => ?_)
              · -- 27 t
                refine jw_aload_n (pc := 36) C dX6_digest_36 0 rfl ?_
                refine jw_aload_n (pc := 37) C dX6_digest_37 0 rfl ?_
                refine jw_iload_n (pc := 38) C dX6_digest_38 1 rfl ?_
                refine jw_iload_n (pc := 39) C dX6_digest_39 2 rfl ?_
                refine jw_callRV (pc := 40) C [.int (jI ((e : Nat) : Int)), .int (jI ((((w : Nat) : Int))))] [.ref g] 2 (con_X6_houseNow lau D cI cB g co nh qk qv ns qh ql ch hd q9 q10 q11 q12 pl qp iw nw nz 0 sd qs ik kc ks kg kh k26 k27 k28 k29 k30 k31 k32 h1 K V SH SL e (((w : Nat) : Int)) (by omega) (by omega) hS hK hV (by omega) (by omega)) gX6_digest_X6_houseNow rfl rfl rfl (by decide +kernel) ⟨Nat.le_of_ble_eq_true rfl, Nat.le_of_ble_eq_true rfl⟩ 0 rfl rfl [0, 1, 2, 3, 4] rfl rfl (Nat.le_of_ble_eq_true rfl) rfl dX6_digest_40 ?_
                refine jw_top (y := jI (sp_hA K V (sp_sum SH SL (ns + 0)) e ((w : Nat) : Int))) (congrArg jI rfl) ?_
                refine jw_i2l (pc := 43) C ((jI (sp_hA K V (sp_sum SH SL (ns + 0)) e ((w : Nat) : Int))).toInt64) dX6_digest_43 rfl ?_
                refine jw_callWV (pc := 44) C [.long (((jI (sp_hA K V (sp_sum SH SL (ns + 0)) e ((w : Nat) : Int))).toInt64))] [] 1 (con_X6_mix lau D cI cB g co nh qk qv ns qh ql ch hd q9 q10 q11 q12 pl qp iw nw nz 0 sd qs ik kc ks kg kh k26 k27 k28 k29 k30 k31 k32 h1 ((jI (sp_hA K V (sp_sum SH SL (ns + 0)) e ((w : Nat) : Int))).toInt64) ) gX6_digest_X6_mix rfl rfl rfl (by decide +kernel) ⟨Nat.le_of_ble_eq_true rfl, Nat.le_of_ble_eq_true rfl⟩ 0 rfl rfl [0] [1, 2, 3, 4, 5, 6, 7, 8, 9] [9, 0, 1, 2, 3, 4, 5, 6, 7, 8] (wr := [aI cI qk 5 K, aI cI qv 5 V, aI cI qh 7 SH, aI cI ql 7 SL, aI cI q9 6 HH, aI cI q10 6 HO, aI cI q11 6 HL, aI cI q12 6 HW, aI cB qp 25 P]) rfl rfl (by decide) (by decide) (fun _ => rfl) (wN := fun u_44_33 => [oM g co ((nh : Nat) : Int) qk qv ((ns : Nat) : Int) qh ql ch ((hd : Nat) : Int) q9 q10 q11 q12 ((pl : Nat) : Int) qp iw nw nz ((0 : Nat) : Int) sd qs ik kc ((ks : Nat) : Int) kg ((kh : Nat) : Int) k26 k27 k28 k29 k30 k31 k32 (31 * h1 + ((jI (sp_hA K V (sp_sum SH SL (ns + 0)) e ((w : Nat) : Int))).toInt64)), aI cI qk 5 K, aI cI qv 5 V, aI cI qh 7 SH, aI cI ql 7 SL, aI cI q9 6 HH, aI cI q10 6 HO, aI cI q11 6 HL, aI cI q12 6 HW, aI cB qp 25 P]) (fun _ => rfl) (stN := fun u_44_33 => []) (fun _ => rfl) rfl (Nat.le_of_ble_eq_true rfl) rfl dX6_digest_44 (fun u_44_33 hu_44_33 => ?_)
                refine jw_iinc (pc := 47) (z := ((w + 1 : Nat) : Int)) (lv' := [(2, .int (jI ((w + 1 : Nat) : Int))), (0, .ref g), (1, .int (jI ((e : Nat) : Int)))]) C dX6_digest_47 2 rfl (by omega) (by decide) rfl ?_
                refine jw_goto (pc := 50) (tgt := 19) C dX6_digest_50 (by decide) ?_
                refine jw_lv [1, 2, 0] rfl ?_
                exact ih_32 (w + 1) (31 * h1 + ((jI (sp_hA K V (sp_sum SH SL (ns + 0)) e ((w : Nat) : Int))).toInt64)) (by omega) (by rw [hh1]; first | exact (sp_in_t (by omega)).symm | exact (sp_in_f (by omega)).symm) (by omega)
              · -- 27 f
                refine jw_iload_n (pc := 30) C dX6_digest_30 2 rfl ?_
                refine jw_bipush (pc := 31) C dX6_digest_31 (by decide +kernel) ?_
                refine jw_icmp_le (pc := 33) (tgt := 47) C dX6_digest_33 (by decide) (by omega) (by omega) (fun c_33 => ?_) (fun c_33 => ?_)
                · -- 33 t
                  refine jw_iinc (pc := 47) (z := ((w + 1 : Nat) : Int)) (lv' := [(2, .int (jI ((w + 1 : Nat) : Int))), (0, .ref g), (1, .int (jI ((e : Nat) : Int)))]) C dX6_digest_47 2 rfl (by omega) (by decide) rfl ?_
                  refine jw_goto (pc := 50) (tgt := 19) C dX6_digest_50 (by decide) ?_
                  refine jw_lv [1, 2, 0] rfl ?_
                  exact ih_32 (w + 1) h1 (by omega) (by rw [hh1]; first | exact (sp_in_t (by omega)).symm | exact (sp_in_f (by omega)).symm) (by omega)
                · -- 33 f
                  refine jw_aload_n (pc := 36) C dX6_digest_36 0 rfl ?_
                  refine jw_aload_n (pc := 37) C dX6_digest_37 0 rfl ?_
                  refine jw_iload_n (pc := 38) C dX6_digest_38 1 rfl ?_
                  refine jw_iload_n (pc := 39) C dX6_digest_39 2 rfl ?_
                  refine jw_callRV (pc := 40) C [.int (jI ((e : Nat) : Int)), .int (jI ((((w : Nat) : Int))))] [.ref g] 2 (con_X6_houseNow lau D cI cB g co nh qk qv ns qh ql ch hd q9 q10 q11 q12 pl qp iw nw nz 0 sd qs ik kc ks kg kh k26 k27 k28 k29 k30 k31 k32 h1 K V SH SL e (((w : Nat) : Int)) (by omega) (by omega) hS hK hV (by omega) (by omega)) gX6_digest_X6_houseNow rfl rfl rfl (by decide +kernel) ⟨Nat.le_of_ble_eq_true rfl, Nat.le_of_ble_eq_true rfl⟩ 0 rfl rfl [0, 1, 2, 3, 4] rfl rfl (Nat.le_of_ble_eq_true rfl) rfl dX6_digest_40 ?_
                  refine jw_top (y := jI (sp_hA K V (sp_sum SH SL (ns + 0)) e ((w : Nat) : Int))) (congrArg jI rfl) ?_
                  refine jw_i2l (pc := 43) C ((jI (sp_hA K V (sp_sum SH SL (ns + 0)) e ((w : Nat) : Int))).toInt64) dX6_digest_43 rfl ?_
                  refine jw_callWV (pc := 44) C [.long (((jI (sp_hA K V (sp_sum SH SL (ns + 0)) e ((w : Nat) : Int))).toInt64))] [] 1 (con_X6_mix lau D cI cB g co nh qk qv ns qh ql ch hd q9 q10 q11 q12 pl qp iw nw nz 0 sd qs ik kc ks kg kh k26 k27 k28 k29 k30 k31 k32 h1 ((jI (sp_hA K V (sp_sum SH SL (ns + 0)) e ((w : Nat) : Int))).toInt64) ) gX6_digest_X6_mix rfl rfl rfl (by decide +kernel) ⟨Nat.le_of_ble_eq_true rfl, Nat.le_of_ble_eq_true rfl⟩ 0 rfl rfl [0] [1, 2, 3, 4, 5, 6, 7, 8, 9] [9, 0, 1, 2, 3, 4, 5, 6, 7, 8] (wr := [aI cI qk 5 K, aI cI qv 5 V, aI cI qh 7 SH, aI cI ql 7 SL, aI cI q9 6 HH, aI cI q10 6 HO, aI cI q11 6 HL, aI cI q12 6 HW, aI cB qp 25 P]) rfl rfl (by decide) (by decide) (fun _ => rfl) (wN := fun u_44_34 => [oM g co ((nh : Nat) : Int) qk qv ((ns : Nat) : Int) qh ql ch ((hd : Nat) : Int) q9 q10 q11 q12 ((pl : Nat) : Int) qp iw nw nz ((0 : Nat) : Int) sd qs ik kc ((ks : Nat) : Int) kg ((kh : Nat) : Int) k26 k27 k28 k29 k30 k31 k32 (31 * h1 + ((jI (sp_hA K V (sp_sum SH SL (ns + 0)) e ((w : Nat) : Int))).toInt64)), aI cI qk 5 K, aI cI qv 5 V, aI cI qh 7 SH, aI cI ql 7 SL, aI cI q9 6 HH, aI cI q10 6 HO, aI cI q11 6 HL, aI cI q12 6 HW, aI cB qp 25 P]) (fun _ => rfl) (stN := fun u_44_34 => []) (fun _ => rfl) rfl (Nat.le_of_ble_eq_true rfl) rfl dX6_digest_44 (fun u_44_34 hu_44_34 => ?_)
                  refine jw_iinc (pc := 47) (z := ((w + 1 : Nat) : Int)) (lv' := [(2, .int (jI ((w + 1 : Nat) : Int))), (0, .ref g), (1, .int (jI ((e : Nat) : Int)))]) C dX6_digest_47 2 rfl (by omega) (by decide) rfl ?_
                  refine jw_goto (pc := 50) (tgt := 19) C dX6_digest_50 (by decide) ?_
                  refine jw_lv [1, 2, 0] rfl ?_
                  exact ih_32 (w + 1) (31 * h1 + ((jI (sp_hA K V (sp_sum SH SL (ns + 0)) e ((w : Nat) : Int))).toInt64)) (by omega) (by rw [hh1]; first | exact (sp_in_t (by omega)).symm | exact (sp_in_f (by omega)).symm) (by omega)
        refine jw_lv [1, 2, 0] rfl ?_
        exact lp_19_31 ((22 - 0) + 1) 0 hv (by omega) rfl (Nat.lt_succ_self _)
  refine jw_lv [1, 0] rfl ?_
  exact lp_9_1 ((nh - 0) + 1) 0 1091 (by omega) rfl (Nat.lt_succ_self _)
