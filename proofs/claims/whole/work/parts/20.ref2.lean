theorem fl_X6_isPolite_94 : Cond.fieldLink RX6 94 "GongTideModel" "houses" "I" ∈ wsX6_isPolite := by decide +kernel
theorem hi_X6_isPolite_X6 : ∀ w ∈ wsX60, w ∈ wsX6_isPolite := fun w h => List.mem_cons_of_mem _ (List.mem_append_right _ h)
def rmX6_isPolite : Room := { frames := 4, cells := 0, slots := 0, locals := 92 }
set_option maxHeartbeats 4000000 in
set_option maxRecDepth 100000 in
theorem con_X6_isPolite (lau : Launch) (D : va_G) (cI cB : ClassId) (g : Nat) (co : Int) (nh : Nat) (qk : Nat) (qv : Nat) (ns : Nat) (qh : Nat) (ql : Nat) (ch : Int) (hd : Nat) (q9 : Nat) (q10 : Nat) (q11 : Nat) (q12 : Nat) (pl : Nat) (qp : Nat) (iw : Int) (nw : Int) (nz : Int) (sd : Int64) (qs : Nat) (ik : Int) (kc : Int) (ks : Nat) (kg : Int) (kh : Nat) (k26 : Nat) (k27 : Nat) (k28 : Nat) (k29 : Nat) (k30 : Nat) (k31 : Nat) (k32 : Nat) (hx : Int64) (K : Nat → Int) (V : Nat → Int) (SH : Nat → Int) (SL : Nat → Int) (b : Nat) (s0 : Nat) (hc : Nat) (hnh : nh ≤ 5) (hns : ns ≤ 6) (hS : ∀ x, x < ns → 0 ≤ SH x ∧ SH x ≤ 9 ∧ 0 ≤ SL x ∧ SL x ≤ 9) (hK : ∀ x, x < 5 → 0 ≤ K x ∧ K x ≤ 4) (hV : ∀ x, x < 5 → 0 ≤ V x ∧ V x ≤ 9) (hb : b < 1024) (hs12 : s0 + hc ≤ 12) : jMR lau yX6_isPolite wsX6_isPolite rmX6_isPolite D cI cB [.ref g, .int (jI ((b : Nat) : Int)), .int (jI ((s0 : Nat) : Int)), .int (jI ((hc : Nat) : Int))] [oM g co ((nh : Nat) : Int) qk qv ((ns : Nat) : Int) qh ql ch ((hd : Nat) : Int) q9 q10 q11 q12 ((pl : Nat) : Int) qp iw nw nz ((0 : Nat) : Int) sd qs ik kc ((ks : Nat) : Int) kg ((kh : Nat) : Int) k26 k27 k28 k29 k30 k31 k32 hx, aI cI qk 5 K, aI cI qv 5 V, aI cI qh 7 SH, aI cI ql 7 SL] (.int (jI (jb (sp_din K V (sp_sum SH SL (ns + 0)) b s0 (s0 + hc) nh = true)))) := by
  refine jMR.of (own := RX6) (cc := cX6_isPolite) (maxL := 7) (ret := (some .boolean)) rfl (by decide) rfl (Nat.le_of_ble_eq_true rfl) ?_
  intro X C E
  refine jw_lv (lv' := [(0, .ref g), (1, .int (jI ((b : Nat) : Int))), (2, .int (jI ((s0 : Nat) : Int))), (3, .int (jI ((hc : Nat) : Int)))]) [0, 1, 2, 3] rfl ?_
  refine jw_iconst (pc := 0) C dX6_isPolite_0 ?_
  refine jw_istore (pc := 1) (lv' := [(4, .int (jI 1)), (0, .ref g), (1, .int (jI ((b : Nat) : Int))), (2, .int (jI ((s0 : Nat) : Int))), (3, .int (jI ((hc : Nat) : Int)))]) C dX6_isPolite_1 (by decide) rfl ?_
  refine jw_iload_n (pc := 3) C dX6_isPolite_3 3 rfl ?_
  refine jw_istore (pc := 4) (lv' := [(5, .int (jI ((s0 : Nat) : Int))), (4, .int (jI 1)), (0, .ref g), (1, .int (jI ((b : Nat) : Int))), (2, .int (jI ((s0 : Nat) : Int))), (3, .int (jI ((hc : Nat) : Int)))]) C dX6_isPolite_4 (by decide) rfl ?_
  have lp_6_1 : ∀ (fu : Nat) (w : Nat) (d : Int), (s0 ≤ w ∧ w ≤ s0 + hc) → (d = 0 ∨ d = 1) → (d = 1 → ∀ y, y < w → s0 ≤ y → ∀ x', x' < nh → sp_bit b x' = 1 → ¬ sp_hw (K x') (V x') (sp_sum SH SL (ns + 0)) y = 0) → (d = 0 → ¬ sp_din K V (sp_sum SH SL (ns + 0)) b s0 (s0 + hc) nh = true) → s0 + hc - w < fu → jW X 6 [(0, .ref g), (1, .int (jI ((b : Nat) : Int))), (2, .int (jI ((s0 : Nat) : Int))), (3, .int (jI ((hc : Nat) : Int))), (4, .int (jI d)), (5, .int (jI ((w : Nat) : Int)))] [] [oM g co ((nh : Nat) : Int) qk qv ((ns : Nat) : Int) qh ql ch ((hd : Nat) : Int) q9 q10 q11 q12 ((pl : Nat) : Int) qp iw nw nz ((0 : Nat) : Int) sd qs ik kc ((ks : Nat) : Int) kg ((kh : Nat) : Int) k26 k27 k28 k29 k30 k31 k32 hx, aI cI qk 5 K, aI cI qv 5 V, aI cI qh 7 SH, aI cI ql 7 SL] := by
    intro fu
    induction fu with
    | zero => intro w d hw hdd h1o h0 hm; exact absurd hm (Nat.not_lt_zero _)
    | succ fu ih_2 =>
      intro w d hw hdd h1o h0 hm
      refine jw_iload (pc := 6) C dX6_isPolite_6 5 rfl ?_
      refine jw_iload_n (pc := 8) C dX6_isPolite_8 2 rfl ?_
      refine jw_iload_n (pc := 9) C dX6_isPolite_9 3 rfl ?_
      refine jw_iadd (pc := 10) (z := ((s0 + hc : Nat) : Int)) C dX6_isPolite_10 (by omega) ?_
      refine jw_icmp_ge (pc := 11) (tgt := 70) C dX6_isPolite_11 (by decide) (by omega) (by omega) (fun c_11 => ?_) (fun c_11 => ?_)
      · -- 11 t
        refine jw_iload (pc := 70) C dX6_isPolite_70 4 rfl ?_
        exact jw_zretR (pc := 72) C E dX6_isPolite_72 (congrArg jI (by
    rcases hdd with q | q
    · rw [q]; exact jb_i0 (h0 q)
    · rw [q]; exact jb_i1 (sp_din_iff.mpr (fun x hx hbx y hy hs => h1o q y (by omega) hs x hx hbx)))) (jb_n _)
      · -- 11 f
        refine jw_iconst (pc := 14) C dX6_isPolite_14 ?_
        refine jw_istore (pc := 15) (lv' := [(6, .int (jI 0)), (0, .ref g), (1, .int (jI ((b : Nat) : Int))), (2, .int (jI ((s0 : Nat) : Int))), (3, .int (jI ((hc : Nat) : Int))), (4, .int (jI d)), (5, .int (jI ((w : Nat) : Int)))]) C dX6_isPolite_15 (by decide) rfl ?_
        have lp_17_3 : ∀ (fu : Nat) (x : Nat) (d2 : Int), (x ≤ nh) → (d2 = 0 ∨ d2 = 1) → (d2 = 1 → (∀ y, y < w → s0 ≤ y → ∀ x', x' < nh → sp_bit b x' = 1 → ¬ sp_hw (K x') (V x') (sp_sum SH SL (ns + 0)) y = 0) ∧ (∀ x', x' < x → sp_bit b x' = 1 → ¬ sp_hw (K x') (V x') (sp_sum SH SL (ns + 0)) w = 0)) → (d2 = 0 → ¬ sp_din K V (sp_sum SH SL (ns + 0)) b s0 (s0 + hc) nh = true) → nh - x < fu → jW X 17 [(0, .ref g), (1, .int (jI ((b : Nat) : Int))), (2, .int (jI ((s0 : Nat) : Int))), (3, .int (jI ((hc : Nat) : Int))), (4, .int (jI d2)), (5, .int (jI ((w : Nat) : Int))), (6, .int (jI ((x : Nat) : Int)))] [] [oM g co ((nh : Nat) : Int) qk qv ((ns : Nat) : Int) qh ql ch ((hd : Nat) : Int) q9 q10 q11 q12 ((pl : Nat) : Int) qp iw nw nz ((0 : Nat) : Int) sd qs ik kc ((ks : Nat) : Int) kg ((kh : Nat) : Int) k26 k27 k28 k29 k30 k31 k32 hx, aI cI qk 5 K, aI cI qv 5 V, aI cI qh 7 SH, aI cI ql 7 SL] := by
          intro fu
          induction fu with
          | zero => intro x d2 hxn hd2 h1 h0i hm; exact absurd hm (Nat.not_lt_zero _)
          | succ fu ih_4 =>
            intro x d2 hxn hd2 h1 h0i hm
            refine jw_iload (pc := 17) C dX6_isPolite_17 6 rfl ?_
            refine jw_aload_n (pc := 19) C dX6_isPolite_19 0 rfl ?_
            refine jw_get (pc := 20) C hi_X6_isPolite_X6 0 rfl rfl 1 (by decide) fl_X6_isPolite_94 rfl rfl dX6_isPolite_20 ?_
            refine jw_icmp_ge (pc := 23) (tgt := 64) C dX6_isPolite_23 (by decide) (by omega) (by omega) (fun c_23 => ?_) (fun c_23 => ?_)
            · -- 23 t
              refine jw_iinc (pc := 64) (z := ((w + 1 : Nat) : Int)) (lv' := [(5, .int (jI ((w + 1 : Nat) : Int))), (0, .ref g), (1, .int (jI ((b : Nat) : Int))), (2, .int (jI ((s0 : Nat) : Int))), (3, .int (jI ((hc : Nat) : Int))), (4, .int (jI d2)), (6, .int (jI ((x : Nat) : Int)))]) C dX6_isPolite_64 5 rfl (by omega) (by decide) rfl ?_
              refine jw_goto (pc := 67) (tgt := 6) C dX6_isPolite_67 (by decide) ?_
              refine jw_lv [1, 2, 3, 4, 5, 0] rfl ?_
              exact ih_2 (w + 1) d2 (by omega) (by omega) (fun q y hy hs x' hx' hb' => by
                    by_cases e : y = w
                    · subst e; exact (h1 q).2 x' (by omega) hb'
                    · exact (h1 q).1 y (by omega) hs x' hx' hb') h0i (by omega)
            · -- 23 f
              refine jw_iload (pc := 26) C dX6_isPolite_26 4 rfl ?_
              refine jw_if_eq (pc := 28) (tgt := 55) C dX6_isPolite_28 (by decide) (by omega) (fun c_28 => ?_) (fun c_28 => ?_)
              · -- 28 t
                refine jw_iconst (pc := 55) C dX6_isPolite_55 ?_
                refine jw_istore (pc := 56) (lv' := [(4, .int (jI 0)), (0, .ref g), (1, .int (jI ((b : Nat) : Int))), (2, .int (jI ((s0 : Nat) : Int))), (3, .int (jI ((hc : Nat) : Int))), (5, .int (jI ((w : Nat) : Int))), (6, .int (jI ((x : Nat) : Int)))]) C dX6_isPolite_56 (by decide) rfl ?_
                refine jw_iinc (pc := 58) (z := ((x + 1 : Nat) : Int)) (lv' := [(6, .int (jI ((x + 1 : Nat) : Int))), (4, .int (jI 0)), (0, .ref g), (1, .int (jI ((b : Nat) : Int))), (2, .int (jI ((s0 : Nat) : Int))), (3, .int (jI ((hc : Nat) : Int))), (5, .int (jI ((w : Nat) : Int)))]) C dX6_isPolite_58 6 rfl (by omega) (by decide) rfl ?_
                refine jw_goto (pc := 61) (tgt := 17) C dX6_isPolite_61 (by decide) ?_
                refine jw_lv [2, 3, 4, 5, 1, 6, 0] rfl ?_
                exact ih_4 (x + 1) 0 (by omega) (by omega) (by first | exact (fun q => absurd q (by decide)) | exact (fun _ => ⟨(h1 (by omega)).1, fun x' hx' hb' => by
                      by_cases e : x' = x
                      · subst e; first | exact absurd hb' c_37 | (intro q; omega)
                      · exact (h1 (by omega)).2 x' (by omega) hb'⟩)) (by first | exact (fun q => absurd q (by decide)) | exact (fun _ => h0i c_28) | exact (fun _ q => (sp_din_iff.mp q x (by omega) c_37 w (by omega) (by omega)) (by omega))) (by omega)
              · -- 28 f
                refine jw_iload_n (pc := 31) C dX6_isPolite_31 1 rfl ?_
                refine jw_iload (pc := 32) C dX6_isPolite_32 6 rfl ?_
                refine jw_callRS (pc := 34) C [.int (jI ((b : Nat) : Int)), .int (jI ((x : Nat) : Int))] [] 2 (con_X6_isIn lau D cI cB b x (by omega) (by omega)) gX6_isPolite_X6_isIn rfl rfl rfl (by decide +kernel) ⟨Nat.le_of_ble_eq_true rfl, Nat.le_of_ble_eq_true rfl⟩ [] rfl rfl (Nat.le_of_ble_eq_true rfl) rfl dX6_isPolite_34 ?_
                refine jw_ifb_eq (pc := 37) (tgt := 51) C dX6_isPolite_37 (by decide) (fun c_37 => ?_) (fun c_37 => ?_)
                · -- 37 t
                  refine jw_iconst (pc := 51) C dX6_isPolite_51 ?_
                  refine jw_goto (pc := 52) (tgt := 56) C dX6_isPolite_52 (by decide) ?_
                  refine jw_istore (pc := 56) (lv' := [(4, .int (jI 1)), (0, .ref g), (1, .int (jI ((b : Nat) : Int))), (2, .int (jI ((s0 : Nat) : Int))), (3, .int (jI ((hc : Nat) : Int))), (5, .int (jI ((w : Nat) : Int))), (6, .int (jI ((x : Nat) : Int)))]) C dX6_isPolite_56 (by decide) rfl ?_
                  refine jw_iinc (pc := 58) (z := ((x + 1 : Nat) : Int)) (lv' := [(6, .int (jI ((x + 1 : Nat) : Int))), (4, .int (jI 1)), (0, .ref g), (1, .int (jI ((b : Nat) : Int))), (2, .int (jI ((s0 : Nat) : Int))), (3, .int (jI ((hc : Nat) : Int))), (5, .int (jI ((w : Nat) : Int)))]) C dX6_isPolite_58 6 rfl (by omega) (by decide) rfl ?_
                  refine jw_goto (pc := 61) (tgt := 17) C dX6_isPolite_61 (by decide) ?_
                  refine jw_lv [2, 3, 4, 5, 1, 6, 0] rfl ?_
                  exact ih_4 (x + 1) 1 (by omega) (by omega) (by first | exact (fun q => absurd q (by decide)) | exact (fun _ => ⟨(h1 (by omega)).1, fun x' hx' hb' => by
                        by_cases e : x' = x
                        · subst e; first | exact absurd hb' c_37 | (intro q; omega)
                        · exact (h1 (by omega)).2 x' (by omega) hb'⟩)) (by first | exact (fun q => absurd q (by decide)) | exact (fun _ => h0i c_28) | exact (fun _ q => (sp_din_iff.mp q x (by omega) c_37 w (by omega) (by omega)) (by omega))) (by omega)
                · -- 37 f
                  refine jw_aload_n (pc := 40) C dX6_isPolite_40 0 rfl ?_
                  refine jw_iload (pc := 41) C dX6_isPolite_41 6 rfl ?_
                  refine jw_iload (pc := 43) C dX6_isPolite_43 5 rfl ?_
                  refine jw_callRV (pc := 45) C [.int (jI ((x : Nat) : Int)), .int (jI ((w : Nat) : Int))] [] 2 (con_X6_howAt lau D cI cB g co nh qk qv ns qh ql ch hd q9 q10 q11 q12 pl qp iw nw nz 0 sd qs ik kc ks kg kh k26 k27 k28 k29 k30 k31 k32 hx K V SH SL x w (by omega) (by omega) hS hK hV (by omega) (by omega)) gX6_isPolite_X6_howAt rfl rfl rfl (by decide +kernel) ⟨Nat.le_of_ble_eq_true rfl, Nat.le_of_ble_eq_true rfl⟩ 0 rfl rfl [0, 1, 2, 3, 4] rfl rfl (Nat.le_of_ble_eq_true rfl) rfl dX6_isPolite_45 ?_
                  have b_45_0 := sp_hw_b (K x) (V x) (sp_sum SH SL (ns + 0)) w
                  refine jw_if_le (pc := 48) (tgt := 55) C dX6_isPolite_48 (by decide) (by omega) (fun c_48 => ?_) (fun c_48 => ?_)
                  · -- 48 t
                    refine jw_iconst (pc := 55) C dX6_isPolite_55 ?_
                    refine jw_istore (pc := 56) (lv' := [(4, .int (jI 0)), (0, .ref g), (1, .int (jI ((b : Nat) : Int))), (2, .int (jI ((s0 : Nat) : Int))), (3, .int (jI ((hc : Nat) : Int))), (5, .int (jI ((w : Nat) : Int))), (6, .int (jI ((x : Nat) : Int)))]) C dX6_isPolite_56 (by decide) rfl ?_
                    refine jw_iinc (pc := 58) (z := ((x + 1 : Nat) : Int)) (lv' := [(6, .int (jI ((x + 1 : Nat) : Int))), (4, .int (jI 0)), (0, .ref g), (1, .int (jI ((b : Nat) : Int))), (2, .int (jI ((s0 : Nat) : Int))), (3, .int (jI ((hc : Nat) : Int))), (5, .int (jI ((w : Nat) : Int)))]) C dX6_isPolite_58 6 rfl (by omega) (by decide) rfl ?_
                    refine jw_goto (pc := 61) (tgt := 17) C dX6_isPolite_61 (by decide) ?_
                    refine jw_lv [2, 3, 4, 5, 1, 6, 0] rfl ?_
                    exact ih_4 (x + 1) 0 (by omega) (by omega) (by first | exact (fun q => absurd q (by decide)) | exact (fun _ => ⟨(h1 (by omega)).1, fun x' hx' hb' => by
                          by_cases e : x' = x
                          · subst e; first | exact absurd hb' c_37 | (intro q; omega)
                          · exact (h1 (by omega)).2 x' (by omega) hb'⟩)) (by first | exact (fun q => absurd q (by decide)) | exact (fun _ => h0i c_28) | exact (fun _ q => (sp_din_iff.mp q x (by omega) c_37 w (by omega) (by omega)) (by omega))) (by omega)
                  · -- 48 f
                    refine jw_iconst (pc := 51) C dX6_isPolite_51 ?_
                    refine jw_goto (pc := 52) (tgt := 56) C dX6_isPolite_52 (by decide) ?_
                    refine jw_istore (pc := 56) (lv' := [(4, .int (jI 1)), (0, .ref g), (1, .int (jI ((b : Nat) : Int))), (2, .int (jI ((s0 : Nat) : Int))), (3, .int (jI ((hc : Nat) : Int))), (5, .int (jI ((w : Nat) : Int))), (6, .int (jI ((x : Nat) : Int)))]) C dX6_isPolite_56 (by decide) rfl ?_
                    refine jw_iinc (pc := 58) (z := ((x + 1 : Nat) : Int)) (lv' := [(6, .int (jI ((x + 1 : Nat) : Int))), (4, .int (jI 1)), (0, .ref g), (1, .int (jI ((b : Nat) : Int))), (2, .int (jI ((s0 : Nat) : Int))), (3, .int (jI ((hc : Nat) : Int))), (5, .int (jI ((w : Nat) : Int)))]) C dX6_isPolite_58 6 rfl (by omega) (by decide) rfl ?_
                    refine jw_goto (pc := 61) (tgt := 17) C dX6_isPolite_61 (by decide) ?_
                    refine jw_lv [2, 3, 4, 5, 1, 6, 0] rfl ?_
                    exact ih_4 (x + 1) 1 (by omega) (by omega) (by first | exact (fun q => absurd q (by decide)) | exact (fun _ => ⟨(h1 (by omega)).1, fun x' hx' hb' => by
                          by_cases e : x' = x
                          · subst e; first | exact absurd hb' c_37 | (intro q; omega)
                          · exact (h1 (by omega)).2 x' (by omega) hb'⟩)) (by first | exact (fun q => absurd q (by decide)) | exact (fun _ => h0i c_28) | exact (fun _ q => (sp_din_iff.mp q x (by omega) c_37 w (by omega) (by omega)) (by omega))) (by omega)
        refine jw_lv [1, 2, 3, 4, 5, 6, 0] rfl ?_
        exact lp_17_3 ((nh - 0) + 1) 0 d (by omega) (by omega) (fun q => ⟨h1o q, fun x' hx' => absurd hx' (Nat.not_lt_zero _)⟩) h0 (Nat.lt_succ_self _)
  refine jw_lv [2, 3, 4, 5, 1, 0] rfl ?_
  exact lp_6_1 ((s0 + hc - s0) + 1) s0 1 (by omega) (by omega) (fun _ y hy hs => absurd hy (by omega)) (fun q => absurd q (by decide)) (Nat.lt_succ_self _)
def rmX6_dinnerNow : Room := { frames := 5, cells := 0, slots := 0, locals := 118 }
set_option maxHeartbeats 4000000 in
set_option maxRecDepth 100000 in
theorem con_X6_dinnerNow (lau : Launch) (D : va_G) (cI cB : ClassId) (g : Nat) (co : Int) (nh : Nat) (qk : Nat) (qv : Nat) (ns : Nat) (qh : Nat) (ql : Nat) (ch : Int) (hd : Nat) (q9 : Nat) (q10 : Nat) (q11 : Nat) (q12 : Nat) (pl : Nat) (qp : Nat) (iw : Int) (nw : Int) (nz : Int) (sd : Int64) (qs : Nat) (ik : Int) (kc : Int) (ks : Nat) (kg : Int) (kh : Nat) (k26 : Nat) (k27 : Nat) (k28 : Nat) (k29 : Nat) (k30 : Nat) (k31 : Nat) (k32 : Nat) (hx : Int64) (K : Nat → Int) (V : Nat → Int) (SH : Nat → Int) (SL : Nat → Int) (b : Nat) (hc : Nat) (hnh : nh ≤ 5) (hns : ns ≤ 6) (hS : ∀ x, x < ns → 0 ≤ SH x ∧ SH x ≤ 9 ∧ 0 ≤ SL x ∧ SL x ≤ 9) (hK : ∀ x, x < 5 → 0 ≤ K x ∧ K x ≤ 4) (hV : ∀ x, x < 5 → 0 ≤ V x ∧ V x ≤ 9) (hb : b < 1024) (hhc : 1 ≤ hc ∧ hc ≤ 6) : jMR lau yX6_dinnerNow wsX6_dinnerNow rmX6_dinnerNow D cI cB [.ref g, .int (jI ((b : Nat) : Int)), .int (jI ((hc : Nat) : Int))] [oM g co ((nh : Nat) : Int) qk qv ((ns : Nat) : Int) qh ql ch ((hd : Nat) : Int) q9 q10 q11 q12 ((pl : Nat) : Int) qp iw nw nz ((0 : Nat) : Int) sd qs ik kc ((ks : Nat) : Int) kg ((kh : Nat) : Int) k26 k27 k28 k29 k30 k31 k32 hx, aI cI qk 5 K, aI cI qv 5 V, aI cI qh 7 SH, aI cI ql 7 SL] (.int (jI (sp_dn K V (sp_sum SH SL (ns + 0)) nh b hc))) := by
  refine jMR.of (own := RX6) (cc := cX6_dinnerNow) (maxL := 4) (ret := (some .int)) rfl (by decide) rfl (Nat.le_of_ble_eq_true rfl) ?_
  intro X C E
  refine jw_lv (lv' := [(0, .ref g), (1, .int (jI ((b : Nat) : Int))), (2, .int (jI ((hc : Nat) : Int)))]) [0, 1, 2] rfl ?_
  refine jw_iconst (pc := 0) C dX6_dinnerNow_0 ?_
  refine jw_istore_n (pc := 1) (lv' := [(3, .int (jI 0)), (0, .ref g), (1, .int (jI ((b : Nat) : Int))), (2, .int (jI ((hc : Nat) : Int)))]) C dX6_dinnerNow_1 (by decide) rfl ?_
  have lp_2_1 : ∀ (fu : Nat) (s0 : Nat), (s0 ≤ 13 - hc) → (∀ j, j < s0 → ¬ sp_dnp K V (sp_sum SH SL (ns + 0)) nh b hc j = true) → 13 - s0 < fu → jW X 2 [(0, .ref g), (1, .int (jI ((b : Nat) : Int))), (2, .int (jI ((hc : Nat) : Int))), (3, .int (jI ((s0 : Nat) : Int)))] [] [oM g co ((nh : Nat) : Int) qk qv ((ns : Nat) : Int) qh ql ch ((hd : Nat) : Int) q9 q10 q11 q12 ((pl : Nat) : Int) qp iw nw nz ((0 : Nat) : Int) sd qs ik kc ((ks : Nat) : Int) kg ((kh : Nat) : Int) k26 k27 k28 k29 k30 k31 k32 hx, aI cI qk 5 K, aI cI qv 5 V, aI cI qh 7 SH, aI cI ql 7 SL] := by
    intro fu
    induction fu with
    | zero => intro s0 hs0 hno hm; exact absurd hm (Nat.not_lt_zero _)
    | succ fu ih_2 =>
      intro s0 hs0 hno hm
      refine jw_iload_n (pc := 2) C dX6_dinnerNow_2 3 rfl ?_
      refine jw_iload_n (pc := 3) C dX6_dinnerNow_3 2 rfl ?_
      refine jw_iadd (pc := 4) (z := ((s0 + hc : Nat) : Int)) C dX6_dinnerNow_4 (by omega) ?_
      refine jw_bipush (pc := 5) C dX6_dinnerNow_5 (by decide +kernel) ?_
      refine jw_icmp_gt (pc := 7) (tgt := 28) C dX6_dinnerNow_7 (by decide) (by omega) (by omega) (fun c_7 => ?_) (fun c_7 => ?_)
      · -- 7 t
        refine jw_iconst (pc := 28) C dX6_dinnerNow_28 ?_
        exact jw_iretR (pc := 29) C E dX6_dinnerNow_29 (congrArg jI (by exact (sp_find_none (p := sp_dnp K V (sp_sum SH SL (ns + 0)) nh b hc) (fun j hj => hno j (by omega))).symm))
      · -- 7 f
        refine jw_aload_n (pc := 10) C dX6_dinnerNow_10 0 rfl ?_
        refine jw_iload_n (pc := 11) C dX6_dinnerNow_11 1 rfl ?_
        refine jw_iload_n (pc := 12) C dX6_dinnerNow_12 3 rfl ?_
        refine jw_iload_n (pc := 13) C dX6_dinnerNow_13 2 rfl ?_
        refine jw_callRV (pc := 14) C [.int (jI ((b : Nat) : Int)), .int (jI ((s0 : Nat) : Int)), .int (jI ((hc : Nat) : Int))] [] 3 (con_X6_isPolite lau D cI cB g co nh qk qv ns qh ql ch hd q9 q10 q11 q12 pl qp iw nw nz sd qs ik kc ks kg kh k26 k27 k28 k29 k30 k31 k32 hx K V SH SL b s0 hc (by omega) (by omega) hS hK hV (by omega) (by omega)) gX6_dinnerNow_X6_isPolite rfl rfl rfl (by decide +kernel) ⟨Nat.le_of_ble_eq_true rfl, Nat.le_of_ble_eq_true rfl⟩ 0 rfl rfl [0, 1, 2, 3, 4] rfl rfl (Nat.le_of_ble_eq_true rfl) rfl dX6_dinnerNow_14 ?_
        refine jw_ifb_eq (pc := 17) (tgt := 22) C dX6_dinnerNow_17 (by decide) (fun c_17 => ?_) (fun c_17 => ?_)
        · -- 17 t
          refine jw_iinc (pc := 22) (z := ((s0 + 1 : Nat) : Int)) (lv' := [(3, .int (jI ((s0 + 1 : Nat) : Int))), (0, .ref g), (1, .int (jI ((b : Nat) : Int))), (2, .int (jI ((hc : Nat) : Int)))]) C dX6_dinnerNow_22 3 rfl (by omega) (by decide) rfl ?_
          refine jw_goto (pc := 25) (tgt := 2) C dX6_dinnerNow_25 (by decide) ?_
          refine jw_lv [1, 2, 3, 0] rfl ?_
          exact ih_2 (s0 + 1) (by omega) (fun j hj => by
                by_cases ej : j = s0
                · subst ej; exact c_17
                · exact hno j (by omega)) (by omega)
        · -- 17 f
          refine jw_iload_n (pc := 20) C dX6_dinnerNow_20 3 rfl ?_
          exact jw_iretR (pc := 21) C E dX6_dinnerNow_21 (congrArg jI (by exact (sp_find_at (p := sp_dnp K V (sp_sum SH SL (ns + 0)) nh b hc) (by omega) c_17 hno).symm))
  refine jw_lv [1, 2, 3, 0] rfl ?_
  exact lp_2_1 ((13 - 0) + 1) 0 (by omega) (fun j hj => absurd hj (Nat.not_lt_zero _)) (Nat.lt_succ_self _)
theorem fl_X6_dinner_94 : Cond.fieldLink RX6 94 "GongTideModel" "houses" "I" ∈ wsX6_dinner := by decide +kernel
theorem hi_X6_dinner_X6 : ∀ w ∈ wsX60, w ∈ wsX6_dinner := fun w h => List.mem_cons_of_mem _ (List.mem_append_right _ h)
def rmX6_dinner : Room := { frames := 6, cells := 0, slots := 0, locals := 141 }
set_option maxHeartbeats 4000000 in
set_option maxRecDepth 100000 in
theorem con_X6_dinner (lau : Launch) (D : va_G) (cI cB : ClassId) (g : Nat) (co : Int) (nh : Nat) (qk : Nat) (qv : Nat) (ns : Nat) (qh : Nat) (ql : Nat) (ch : Int) (hd : Nat) (q9 : Nat) (q10 : Nat) (q11 : Nat) (q12 : Nat) (pl : Nat) (qp : Nat) (iw : Int) (nw : Int) (nz : Int) (sd : Int64) (qs : Nat) (ik : Int) (kc : Int) (ks : Nat) (kg : Int) (kh : Nat) (k26 : Nat) (k27 : Nat) (k28 : Nat) (k29 : Nat) (k30 : Nat) (k31 : Nat) (k32 : Nat) (hx : Int64) (K : Nat → Int) (V : Nat → Int) (SH : Nat → Int) (SL : Nat → Int) (b : Int) (t0 : Int) (hnh : nh ≤ 5) (hns : ns ≤ 6) (hS : ∀ x, x < ns → 0 ≤ SH x ∧ SH x ≤ 9 ∧ 0 ≤ SL x ∧ SL x ≤ 9) (hK : ∀ x, x < 5 → 0 ≤ K x ∧ K x ≤ 4) (hV : ∀ x, x < 5 → 0 ≤ V x ∧ V x ≤ 9) (hb : -2147483648 ≤ b ∧ b < 2147483648) (ht : -2147483648 ≤ t0 ∧ t0 < 2147483648) : jMR lau yX6_dinner wsX6_dinner rmX6_dinner D cI cB [.ref g, .int (jI b), .int (jI t0)] [oM g co ((nh : Nat) : Int) qk qv ((ns : Nat) : Int) qh ql ch ((hd : Nat) : Int) q9 q10 q11 q12 ((pl : Nat) : Int) qp iw nw nz ((0 : Nat) : Int) sd qs ik kc ((ks : Nat) : Int) kg ((kh : Nat) : Int) k26 k27 k28 k29 k30 k31 k32 hx, aI cI qk 5 K, aI cI qv 5 V, aI cI qh 7 SH, aI cI ql 7 SL] (.int (jI (sp_dinner nh K V (sp_sum SH SL (ns + 0)) b t0))) := by
  refine jMR.of (own := RX6) (cc := cX6_dinner) (maxL := 3) (ret := (some .int)) rfl (by decide) rfl (Nat.le_of_ble_eq_true rfl) ?_
  intro X C E
  refine jw_lv (lv' := [(0, .ref g), (1, .int (jI b)), (2, .int (jI t0))]) [0, 1, 2] rfl ?_
  have hp2 := sp_p2 hnh
  have hp1 := sp_p1 nh
  refine jw_iload_n (pc := 0) C dX6_dinner_0 1 rfl ?_
  refine jw_iconst (pc := 1) C dX6_dinner_1 ?_
  refine jw_iconst (pc := 2) C dX6_dinner_2 ?_
  refine jw_aload_n (pc := 3) C dX6_dinner_3 0 rfl ?_
  refine jw_get (pc := 4) C hi_X6_dinner_X6 0 rfl rfl 1 (by decide) fl_X6_dinner_94 rfl rfl dX6_dinner_4 ?_
  refine jw_ishl (pc := 7) C (jI ((2 ^ nh : Nat) : Int)) dX6_dinner_7 (jI_shl1 nh (by omega)) ?_
  refine jw_iconst (pc := 8) C dX6_dinner_8 ?_
  refine jw_isub (pc := 9) (z := (((2 ^ nh : Nat) : Int) - 1)) C dX6_dinner_9 rfl ?_
  refine jw_callRS (pc := 10) C [.int (jI b), .int (jI 1), .int (jI (((((2 ^ nh : Nat) : Int) - 1))))] [] 3 (con_X6_within lau D cI cB b 1 ((((2 ^ nh : Nat) : Int) - 1)) (by omega) (by omega) (by omega)) gX6_dinner_X6_within rfl rfl rfl (by decide +kernel) ⟨Nat.le_of_ble_eq_true rfl, Nat.le_of_ble_eq_true rfl⟩ [] rfl rfl (Nat.le_of_ble_eq_true rfl) rfl dX6_dinner_10 ?_
  refine jw_ifb_eq (pc := 13) (tgt := 35) C dX6_dinner_13 (by decide) (fun c_13 => ?_) (fun c_13 => ?_)
  · -- 13 t
    refine jw_bipush (pc := 35) C dX6_dinner_35 (by decide +kernel) ?_
    exact jw_iretR (pc := 37) C E dX6_dinner_37 (congrArg jI (by unfold sp_dinner; (try simp only [Int.toNat_natCast]); first | (rw [if_pos (by omega)]; done) | (rw [if_neg (by omega)]; done)))
  · -- 13 f
    refine jw_iload_n (pc := 16) C dX6_dinner_16 2 rfl ?_
    refine jw_iconst (pc := 17) C dX6_dinner_17 ?_
    refine jw_bipush (pc := 18) C dX6_dinner_18 (by decide +kernel) ?_
    refine jw_callRS (pc := 20) C [.int (jI t0), .int (jI 1), .int (jI 6)] [] 3 (con_X6_within lau D cI cB t0 1 6 (by omega) (by omega) (by omega)) gX6_dinner_X6_within rfl rfl rfl (by decide +kernel) ⟨Nat.le_of_ble_eq_true rfl, Nat.le_of_ble_eq_true rfl⟩ [] rfl rfl (Nat.le_of_ble_eq_true rfl) rfl dX6_dinner_20 ?_
    refine jw_ifb_eq (pc := 23) (tgt := 35) C dX6_dinner_23 (by decide) (fun c_23 => ?_) (fun c_23 => ?_)
    · -- 23 t
      refine jw_bipush (pc := 35) C dX6_dinner_35 (by decide +kernel) ?_
      exact jw_iretR (pc := 37) C E dX6_dinner_37 (congrArg jI (by unfold sp_dinner; (try simp only [Int.toNat_natCast]); first | (rw [if_pos (by omega)]; done) | (rw [if_neg (by omega)]; done)))
    · -- 23 f
      obtain ⟨kb, rfl⟩ : ∃ kb : Nat, b = ((kb : Nat) : Int) := ⟨(b).toNat, by omega⟩
      obtain ⟨kt, rfl⟩ : ∃ kt : Nat, t0 = ((kt : Nat) : Int) := ⟨(t0).toNat, by omega⟩
      refine jw_aload_n (pc := 26) C dX6_dinner_26 0 rfl ?_
      refine jw_iload_n (pc := 27) C dX6_dinner_27 1 rfl ?_
      refine jw_iload_n (pc := 28) C dX6_dinner_28 2 rfl ?_
      refine jw_callRV (pc := 29) C [.int (jI ((kb : Nat) : Int)), .int (jI ((kt : Nat) : Int))] [] 2 (con_X6_dinnerNow lau D cI cB g co nh qk qv ns qh ql ch hd q9 q10 q11 q12 pl qp iw nw nz sd qs ik kc ks kg kh k26 k27 k28 k29 k30 k31 k32 hx K V SH SL kb kt (by omega) (by omega) hS hK hV (by omega) (by omega)) gX6_dinner_X6_dinnerNow rfl rfl rfl (by decide +kernel) ⟨Nat.le_of_ble_eq_true rfl, Nat.le_of_ble_eq_true rfl⟩ 0 rfl rfl [0, 1, 2, 3, 4] rfl rfl (Nat.le_of_ble_eq_true rfl) rfl dX6_dinner_29 ?_
      refine jw_goto (pc := 32) (tgt := 37) C dX6_dinner_32 (by decide) ?_
      exact jw_iretR (pc := 37) C E dX6_dinner_37 (congrArg jI (by unfold sp_dinner; (try simp only [Int.toNat_natCast]); first | (rw [if_pos (by omega)]; done) | (rw [if_neg (by omega)]; done)))
theorem fl_X6_highest_94 : Cond.fieldLink RX6 94 "GongTideModel" "houses" "I" ∈ wsX6_highest := by decide +kernel
theorem hi_X6_highest_X6 : ∀ w ∈ wsX60, w ∈ wsX6_highest := fun w h => List.mem_cons_of_mem _ (List.mem_append_right _ h)
def rmX6_highest : Room := { frames := 1, cells := 0, slots := 0, locals := 25 }
set_option maxHeartbeats 4000000 in
set_option maxRecDepth 100000 in
theorem con_X6_highest (lau : Launch) (D : va_G) (cI cB : ClassId) (g : Nat) (co : Int) (nh : Nat) (qk : Nat) (qv : Nat) (ns : Nat) (qh : Nat) (ql : Nat) (ch : Int) (hd : Nat) (q9 : Nat) (q10 : Nat) (q11 : Nat) (q12 : Nat) (pl : Nat) (qp : Nat) (iw : Int) (nw : Int) (nz : Int) (sd : Int64) (qs : Nat) (ik : Int) (kc : Int) (ks : Nat) (kg : Int) (kh : Nat) (k26 : Nat) (k27 : Nat) (k28 : Nat) (k29 : Nat) (k30 : Nat) (k31 : Nat) (k32 : Nat) (hx : Int64) (SH : Nat → Int) (SL : Nat → Int) (hnh : nh ≤ 5) (hns : ns ≤ 6) (hS : ∀ x, x < ns → 0 ≤ SH x ∧ SH x ≤ 9 ∧ 0 ≤ SL x ∧ SL x ≤ 9) (hz : nh = 0 → ns = 0) : jMR lau yX6_highest wsX6_highest rmX6_highest D cI cB [.ref g] [oM g co ((nh : Nat) : Int) qk qv ((ns : Nat) : Int) qh ql ch ((hd : Nat) : Int) q9 q10 q11 q12 ((pl : Nat) : Int) qp iw nw nz ((0 : Nat) : Int) sd qs ik kc ((ks : Nat) : Int) kg ((kh : Nat) : Int) k26 k27 k28 k29 k30 k31 k32 hx, aI cI qh 7 SH, aI cI ql 7 SL] (.int (jI (sp_gr (sp_sum SH SL (ns + 0)) 12))) := by
  refine jMR.of (own := RX6) (cc := cX6_highest) (maxL := 3) (ret := (some .int)) rfl (by decide) rfl (Nat.le_of_ble_eq_true rfl) ?_
  intro X C E
  refine jw_lv (lv' := [(0, .ref g)]) [0] rfl ?_
  refine jw_iconst (pc := 0) C dX6_highest_0 ?_
  refine jw_istore_n (pc := 1) (lv' := [(1, .int (jI 0)), (0, .ref g)]) C dX6_highest_1 (by decide) rfl ?_
  refine jw_iconst (pc := 2) C dX6_highest_2 ?_
  refine jw_istore_n (pc := 3) (lv' := [(2, .int (jI 0)), (1, .int (jI 0)), (0, .ref g)]) C dX6_highest_3 (by decide) rfl ?_
  have lp_4_1 : ∀ (fu : Nat) (i : Nat) (m : Int), (i ≤ 12) → (m = sp_gr (sp_sum SH SL (ns + 0)) i) → (0 ≤ m ∧ m ≤ 20) → 12 - i < fu → jW X 4 [(0, .ref g), (1, .int (jI m)), (2, .int (jI ((i : Nat) : Int)))] [] [oM g co ((nh : Nat) : Int) qk qv ((ns : Nat) : Int) qh ql ch ((hd : Nat) : Int) q9 q10 q11 q12 ((pl : Nat) : Int) qp iw nw nz ((0 : Nat) : Int) sd qs ik kc ((ks : Nat) : Int) kg ((kh : Nat) : Int) k26 k27 k28 k29 k30 k31 k32 hx, aI cI qh 7 SH, aI cI ql 7 SL] := by
    intro fu
    induction fu with
    | zero => intro i m hi hm0 hmb hm; exact absurd hm (Nat.not_lt_zero _)
    | succ fu ih_2 =>
      intro i m hi hm0 hmb hm
      refine jw_iload_n (pc := 4) C dX6_highest_4 2 rfl ?_
      refine jw_bipush (pc := 5) C dX6_highest_5 (by decide +kernel) ?_
      refine jw_icmp_ge (pc := 7) (tgt := 42) C dX6_highest_7 (by decide) (by omega) (by omega) (fun c_7 => ?_) (fun c_7 => ?_)
      · -- 7 t
        refine jw_iload_n (pc := 42) C dX6_highest_42 1 rfl ?_
        exact jw_iretR (pc := 43) C E dX6_highest_43 (congrArg jI (by rw [hm0]; first | (rw [show i = 12 by omega]; done) | (have e0 : sp_sum SH SL (ns + 0) = sp_zero := (by rw [hz (by omega)]; rfl); rw [e0, sp_gr0, sp_gr0])))
      · -- 7 f
        refine jw_aload_n (pc := 10) C dX6_highest_10 0 rfl ?_
        refine jw_get (pc := 11) C hi_X6_highest_X6 0 rfl rfl 1 (by decide) fl_X6_highest_94 rfl rfl dX6_highest_11 ?_
        refine jw_if_le (pc := 14) (tgt := 42) C dX6_highest_14 (by decide) (by omega) (fun c_14 => ?_) (fun c_14 => ?_)
        · -- 14 t
          refine jw_iload_n (pc := 42) C dX6_highest_42 1 rfl ?_
          exact jw_iretR (pc := 43) C E dX6_highest_43 (congrArg jI (by rw [hm0]; first | (rw [show i = 12 by omega]; done) | (have e0 : sp_sum SH SL (ns + 0) = sp_zero := (by rw [hz (by omega)]; rfl); rw [e0, sp_gr0, sp_gr0])))
        · -- 14 f
          refine jw_aload_n (pc := 17) C dX6_highest_17 0 rfl ?_
          refine jw_iload_n (pc := 18) C dX6_highest_18 2 rfl ?_
          refine jw_callRV (pc := 19) C [.int (jI ((i : Nat) : Int))] [] 1 (con_X6_tideAt lau D cI cB g co nh qk qv ns qh ql ch hd q9 q10 q11 q12 pl qp iw nw nz 0 sd qs ik kc ks kg kh k26 k27 k28 k29 k30 k31 k32 hx SH SL i (by omega) (by omega) hS (by omega)) gX6_highest_X6_tideAt rfl rfl rfl (by decide +kernel) ⟨Nat.le_of_ble_eq_true rfl, Nat.le_of_ble_eq_true rfl⟩ 0 rfl rfl [0, 1, 2] rfl rfl (Nat.le_of_ble_eq_true rfl) rfl dX6_highest_19 ?_
          have b_19_0 := (show 0 ≤ sp_cap (sp_sum SH SL (ns + 0) i) ∧ sp_cap (sp_sum SH SL (ns + 0) i) ≤ 20 from sp_cap_b (sp_sum_b (ns + 0) (fun y hy => (hS y hy).2.2) i).1)
          refine jw_iload_n (pc := 22) C dX6_highest_22 1 rfl ?_
          refine jw_icmp_le (pc := 23) (tgt := 34) C dX6_highest_23 (by decide) (by omega) (by omega) (fun c_23 => ?_) (fun c_23 => ?_)
          · -- 23 t
            refine jw_iload_n (pc := 34) C dX6_highest_34 1 rfl ?_
            refine jw_istore_n (pc := 35) (lv' := [(1, .int (jI m)), (0, .ref g), (2, .int (jI ((i : Nat) : Int)))]) C dX6_highest_35 (by decide) rfl ?_
            refine jw_iinc (pc := 36) (z := ((i + 1 : Nat) : Int)) (lv' := [(2, .int (jI ((i + 1 : Nat) : Int))), (1, .int (jI m)), (0, .ref g)]) C dX6_highest_36 2 rfl (by omega) (by decide) rfl ?_
            refine jw_goto (pc := 39) (tgt := 4) C dX6_highest_39 (by decide) ?_
            refine jw_lv [2, 1, 0] rfl ?_
            exact ih_2 (i + 1) m (by omega) (by show _ = (if sp_gr (sp_sum SH SL (ns + 0)) i < sp_cap ((sp_sum SH SL (ns + 0)) i) then sp_cap ((sp_sum SH SL (ns + 0)) i) else sp_gr (sp_sum SH SL (ns + 0)) i); rw [← hm0]; split <;> omega) (by omega) (by omega)
          · -- 23 f
            refine jw_aload_n (pc := 26) C dX6_highest_26 0 rfl ?_
            refine jw_iload_n (pc := 27) C dX6_highest_27 2 rfl ?_
            refine jw_callRV (pc := 28) C [.int (jI ((i : Nat) : Int))] [] 1 (con_X6_tideAt lau D cI cB g co nh qk qv ns qh ql ch hd q9 q10 q11 q12 pl qp iw nw nz 0 sd qs ik kc ks kg kh k26 k27 k28 k29 k30 k31 k32 hx SH SL i (by omega) (by omega) hS (by omega)) gX6_highest_X6_tideAt rfl rfl rfl (by decide +kernel) ⟨Nat.le_of_ble_eq_true rfl, Nat.le_of_ble_eq_true rfl⟩ 0 rfl rfl [0, 1, 2] rfl rfl (Nat.le_of_ble_eq_true rfl) rfl dX6_highest_28 ?_
            have b_28_0 := (show 0 ≤ sp_cap (sp_sum SH SL (ns + 0) i) ∧ sp_cap (sp_sum SH SL (ns + 0) i) ≤ 20 from sp_cap_b (sp_sum_b (ns + 0) (fun y hy => (hS y hy).2.2) i).1)
            refine jw_goto (pc := 31) (tgt := 35) C dX6_highest_31 (by decide) ?_
            refine jw_istore_n (pc := 35) (lv' := [(1, .int (jI (sp_cap ((sp_sum SH SL (ns + 0)) i)))), (0, .ref g), (2, .int (jI ((i : Nat) : Int)))]) C dX6_highest_35 (by decide) rfl ?_
            refine jw_iinc (pc := 36) (z := ((i + 1 : Nat) : Int)) (lv' := [(2, .int (jI ((i + 1 : Nat) : Int))), (1, .int (jI (sp_cap ((sp_sum SH SL (ns + 0)) i)))), (0, .ref g)]) C dX6_highest_36 2 rfl (by omega) (by decide) rfl ?_
            refine jw_goto (pc := 39) (tgt := 4) C dX6_highest_39 (by decide) ?_
            refine jw_lv [2, 1, 0] rfl ?_
            exact ih_2 (i + 1) ((sp_cap ((sp_sum SH SL (ns + 0)) i))) (by omega) (by show _ = (if sp_gr (sp_sum SH SL (ns + 0)) i < sp_cap ((sp_sum SH SL (ns + 0)) i) then sp_cap ((sp_sum SH SL (ns + 0)) i) else sp_gr (sp_sum SH SL (ns + 0)) i); rw [← hm0]; split <;> omega) (by omega) (by omega)
  refine jw_lv [2, 1, 0] rfl ?_
  exact lp_4_1 ((12 - 0) + 1) 0 0 (by omega) rfl (by omega) (Nat.lt_succ_self _)
theorem fl_X6_howMany_66 : Cond.fieldLink RX6 66 "GongTideModel" "pageLength" "I" ∈ wsX6_howMany := by decide +kernel
theorem fl_X6_howMany_94 : Cond.fieldLink RX6 94 "GongTideModel" "houses" "I" ∈ wsX6_howMany := by decide +kernel
theorem fl_X6_howMany_97 : Cond.fieldLink RX6 97 "GongTideModel" "strokes" "I" ∈ wsX6_howMany := by decide +kernel
theorem fl_X6_howMany_100 : Cond.fieldLink RX6 100 "GongTideModel" "colonies" "I" ∈ wsX6_howMany := by decide +kernel
theorem fl_X6_howMany_103 : Cond.fieldLink RX6 103 "GongTideModel" "changes" "I" ∈ wsX6_howMany := by decide +kernel
theorem fl_X6_howMany_106 : Cond.fieldLink RX6 106 "GongTideModel" "heard" "I" ∈ wsX6_howMany := by decide +kernel
theorem hi_X6_howMany_X6 : ∀ w ∈ wsX60, w ∈ wsX6_howMany := fun w h => List.mem_cons_of_mem _ (List.mem_append_right _ h)
def rmX6_howMany : Room := { frames := 6, cells := 0, slots := 0, locals := 139 }
set_option maxHeartbeats 4000000 in
set_option maxRecDepth 100000 in
theorem con_X6_howMany (lau : Launch) (D : va_G) (cI cB : ClassId) (g : Nat) (co : Int) (nh : Nat) (qk : Nat) (qv : Nat) (ns : Nat) (qh : Nat) (ql : Nat) (ch : Int) (hd : Nat) (q9 : Nat) (q10 : Nat) (q11 : Nat) (q12 : Nat) (pl : Nat) (qp : Nat) (iw : Int) (nw : Int) (nz : Int) (sd : Int64) (qs : Nat) (ik : Int) (kc : Int) (ks : Nat) (kg : Int) (kh : Nat) (k26 : Nat) (k27 : Nat) (k28 : Nat) (k29 : Nat) (k30 : Nat) (k31 : Nat) (k32 : Nat) (hx : Int64) (K : Nat → Int) (V : Nat → Int) (SH : Nat → Int) (SL : Nat → Int) (w : Int) (hnh : nh ≤ 5) (hns : ns ≤ 6) (hS : ∀ x, x < ns → 0 ≤ SH x ∧ SH x ≤ 9 ∧ 0 ≤ SL x ∧ SL x ≤ 9) (hK : ∀ x, x < 5 → 0 ≤ K x ∧ K x ≤ 4) (hV : ∀ x, x < 5 → 0 ≤ V x ∧ V x ≤ 9) (hz : nh = 0 → ns = 0) (hw : -2147483648 ≤ w ∧ w < 2147483648) : jMR lau yX6_howMany wsX6_howMany rmX6_howMany D cI cB [.ref g, .int (jI w)] [oM g co ((nh : Nat) : Int) qk qv ((ns : Nat) : Int) qh ql ch ((hd : Nat) : Int) q9 q10 q11 q12 ((pl : Nat) : Int) qp iw nw nz ((0 : Nat) : Int) sd qs ik kc ((ks : Nat) : Int) kg ((kh : Nat) : Int) k26 k27 k28 k29 k30 k31 k32 hx, aI cI qk 5 K, aI cI qv 5 V, aI cI qh 7 SH, aI cI ql 7 SL] (.int (jI (sp_count nh ns K V (sp_sum SH SL (ns + 0)) ch hd pl co w))) := by
  refine jMR.of (own := RX6) (cc := cX6_howMany) (maxL := 2) (ret := (some .int)) rfl (by decide) rfl (Nat.le_of_ble_eq_true rfl) ?_
  intro X C E
  refine jw_lv (lv' := [(0, .ref g), (1, .int (jI w))]) [0, 1] rfl ?_
  refine jw_iload_n (pc := 0) C dX6_howMany_0 1 rfl ?_
  by_cases sw_1_0 : w = 0
  · -- case 0
    refine jw_table (pc := 1) (tgt := 52) C dX6_howMany_1 (by omega) (by omega) (by omega) (by rw [sw_1_0]; rfl) (by decide) ?_
    refine jw_aload_n (pc := 52) C dX6_howMany_52 0 rfl ?_
    refine jw_get (pc := 53) C hi_X6_howMany_X6 0 rfl rfl 1 (by decide) fl_X6_howMany_94 rfl rfl dX6_howMany_53 ?_
    exact jw_iretR (pc := 56) C E dX6_howMany_56 (congrArg jI (by unfold sp_count; (repeat' split) <;> first | rfl | omega))
  ·
    by_cases sw_1_1 : w = 1
    · -- case 1
      refine jw_table (pc := 1) (tgt := 57) C dX6_howMany_1 (by omega) (by omega) (by omega) (by rw [sw_1_1]; rfl) (by decide) ?_
      refine jw_aload_n (pc := 57) C dX6_howMany_57 0 rfl ?_
      refine jw_get (pc := 58) C hi_X6_howMany_X6 0 rfl rfl 4 (by decide) fl_X6_howMany_97 rfl rfl dX6_howMany_58 ?_
      exact jw_iretR (pc := 61) C E dX6_howMany_61 (congrArg jI (by unfold sp_count; (repeat' split) <;> first | rfl | omega))
    ·
      by_cases sw_1_2 : w = 2
      · -- case 2
        refine jw_table (pc := 1) (tgt := 62) C dX6_howMany_1 (by omega) (by omega) (by omega) (by rw [sw_1_2]; rfl) (by decide) ?_
        refine jw_aload_n (pc := 62) C dX6_howMany_62 0 rfl ?_
        refine jw_callRV (pc := 63) C [] [] 0 (con_X6_highest lau D cI cB g co nh qk qv ns qh ql ch hd q9 q10 q11 q12 pl qp iw nw nz sd qs ik kc ks kg kh k26 k27 k28 k29 k30 k31 k32 hx SH SL (by omega) (by omega) hS hz) gX6_howMany_X6_highest rfl rfl rfl (by decide +kernel) ⟨Nat.le_of_ble_eq_true rfl, Nat.le_of_ble_eq_true rfl⟩ 0 rfl rfl [0, 3, 4] rfl rfl (Nat.le_of_ble_eq_true rfl) rfl dX6_howMany_63 ?_
        exact jw_iretR (pc := 66) C E dX6_howMany_66 (congrArg jI (by unfold sp_count; (repeat' split) <;> first | rfl | omega))
      ·
        by_cases sw_1_3 : w = 3
        · -- case 3
          refine jw_table (pc := 1) (tgt := 67) C dX6_howMany_1 (by omega) (by omega) (by omega) (by rw [sw_1_3]; rfl) (by decide) ?_
          refine jw_aload_n (pc := 67) C dX6_howMany_67 0 rfl ?_
          refine jw_iconst (pc := 68) C dX6_howMany_68 ?_
          refine jw_callRV (pc := 69) C [.int (jI 0)] [] 1 (con_X6_hoursAll lau D cI cB g co nh qk qv ns qh ql ch hd q9 q10 q11 q12 pl qp iw nw nz 0 sd qs ik kc ks kg kh k26 k27 k28 k29 k30 k31 k32 hx K V SH SL 0 (by omega) (by omega) (by omega) hS hK hV (by omega)) gX6_howMany_X6_hoursAll rfl rfl rfl (by decide +kernel) ⟨Nat.le_of_ble_eq_true rfl, Nat.le_of_ble_eq_true rfl⟩ 0 rfl rfl [0, 1, 2, 3, 4] rfl rfl (Nat.le_of_ble_eq_true rfl) rfl dX6_howMany_69 ?_
          have b_69_0 := sp_all_b K V (sp_sum SH SL (ns + 0)) 0 nh
          exact jw_iretR (pc := 72) C E dX6_howMany_72 (congrArg jI (by unfold sp_count; (repeat' split) <;> first | rfl | omega))
        ·
          by_cases sw_1_4 : w = 4
          · -- case 4
            refine jw_table (pc := 1) (tgt := 73) C dX6_howMany_1 (by omega) (by omega) (by omega) (by rw [sw_1_4]; rfl) (by decide) ?_
            refine jw_aload_n (pc := 73) C dX6_howMany_73 0 rfl ?_
            refine jw_iconst (pc := 74) C dX6_howMany_74 ?_
            refine jw_callRV (pc := 75) C [.int (jI 2)] [] 1 (con_X6_hoursAll lau D cI cB g co nh qk qv ns qh ql ch hd q9 q10 q11 q12 pl qp iw nw nz 0 sd qs ik kc ks kg kh k26 k27 k28 k29 k30 k31 k32 hx K V SH SL 2 (by omega) (by omega) (by omega) hS hK hV (by omega)) gX6_howMany_X6_hoursAll rfl rfl rfl (by decide +kernel) ⟨Nat.le_of_ble_eq_true rfl, Nat.le_of_ble_eq_true rfl⟩ 0 rfl rfl [0, 1, 2, 3, 4] rfl rfl (Nat.le_of_ble_eq_true rfl) rfl dX6_howMany_75 ?_
            have b_75_0 := sp_all_b K V (sp_sum SH SL (ns + 0)) 2 nh
            exact jw_iretR (pc := 78) C E dX6_howMany_78 (congrArg jI (by unfold sp_count; (repeat' split) <;> first | rfl | omega))
          ·
            by_cases sw_1_5 : w = 5
            · -- case 5
              refine jw_table (pc := 1) (tgt := 79) C dX6_howMany_1 (by omega) (by omega) (by omega) (by rw [sw_1_5]; rfl) (by decide) ?_
              refine jw_aload_n (pc := 79) C dX6_howMany_79 0 rfl ?_
              refine jw_get (pc := 80) C hi_X6_howMany_X6 0 rfl rfl 7 (by decide) fl_X6_howMany_103 rfl rfl dX6_howMany_80 ?_
              exact jw_iretR (pc := 83) C E dX6_howMany_83 (congrArg jI (by unfold sp_count; (repeat' split) <;> first | rfl | omega))
            ·
              by_cases sw_1_6 : w = 6
              · -- case 6
                refine jw_table (pc := 1) (tgt := 84) C dX6_howMany_1 (by omega) (by omega) (by omega) (by rw [sw_1_6]; rfl) (by decide) ?_
                refine jw_aload_n (pc := 84) C dX6_howMany_84 0 rfl ?_
                refine jw_get (pc := 85) C hi_X6_howMany_X6 0 rfl rfl 8 (by decide) fl_X6_howMany_106 rfl rfl dX6_howMany_85 ?_
                exact jw_iretR (pc := 88) C E dX6_howMany_88 (congrArg jI (by unfold sp_count; (repeat' split) <;> first | rfl | omega))
              ·
                by_cases sw_1_7 : w = 7
                · -- case 7
                  refine jw_table (pc := 1) (tgt := 89) C dX6_howMany_1 (by omega) (by omega) (by omega) (by rw [sw_1_7]; rfl) (by decide) ?_
                  refine jw_aload_n (pc := 89) C dX6_howMany_89 0 rfl ?_
                  refine jw_get (pc := 90) C hi_X6_howMany_X6 0 rfl rfl 13 (by decide) fl_X6_howMany_66 rfl rfl dX6_howMany_90 ?_
                  exact jw_iretR (pc := 93) C E dX6_howMany_93 (congrArg jI (by unfold sp_count; (repeat' split) <;> first | rfl | omega))
                ·
                  by_cases sw_1_8 : w = 8
                  · -- case 8
                    refine jw_table (pc := 1) (tgt := 94) C dX6_howMany_1 (by omega) (by omega) (by omega) (by rw [sw_1_8]; rfl) (by decide) ?_
                    refine jw_aload_n (pc := 94) C dX6_howMany_94 0 rfl ?_
                    refine jw_get (pc := 95) C hi_X6_howMany_X6 0 rfl rfl 0 (by decide) fl_X6_howMany_100 rfl rfl dX6_howMany_95 ?_
                    exact jw_iretR (pc := 98) C E dX6_howMany_98 (congrArg jI (by unfold sp_count; (repeat' split) <;> first | rfl | omega))
                  ·
                    refine jw_tableOut (pc := 1) (tgt := 99) C dX6_howMany_1 (by omega) (by omega) (by decide) ?_
                    refine jw_bipush (pc := 99) C dX6_howMany_99 (by decide +kernel) ?_
                    exact jw_iretR (pc := 101) C E dX6_howMany_101 (congrArg jI (by unfold sp_count; (repeat' split) <;> first | rfl | omega))
def rmX6_count : Room := { frames := 7, cells := 0, slots := 0, locals := 160 }
set_option maxHeartbeats 4000000 in
set_option maxRecDepth 100000 in
theorem con_X6_count (lau : Launch) (D : va_G) (cI cB : ClassId) (g : Nat) (co : Int) (nh : Nat) (qk : Nat) (qv : Nat) (ns : Nat) (qh : Nat) (ql : Nat) (ch : Int) (hd : Nat) (q9 : Nat) (q10 : Nat) (q11 : Nat) (q12 : Nat) (pl : Nat) (qp : Nat) (iw : Int) (nw : Int) (nz : Int) (sd : Int64) (qs : Nat) (ik : Int) (kc : Int) (ks : Nat) (kg : Int) (kh : Nat) (k26 : Nat) (k27 : Nat) (k28 : Nat) (k29 : Nat) (k30 : Nat) (k31 : Nat) (k32 : Nat) (hx : Int64) (K : Nat → Int) (V : Nat → Int) (SH : Nat → Int) (SL : Nat → Int) (w : Int) (hnh : nh ≤ 5) (hns : ns ≤ 6) (hS : ∀ x, x < ns → 0 ≤ SH x ∧ SH x ≤ 9 ∧ 0 ≤ SL x ∧ SL x ≤ 9) (hK : ∀ x, x < 5 → 0 ≤ K x ∧ K x ≤ 4) (hV : ∀ x, x < 5 → 0 ≤ V x ∧ V x ≤ 9) (hz : nh = 0 → ns = 0) (hw : -2147483648 ≤ w ∧ w < 2147483648) : jMR lau yX6_count wsX6_count rmX6_count D cI cB [.ref g, .int (jI w)] [oM g co ((nh : Nat) : Int) qk qv ((ns : Nat) : Int) qh ql ch ((hd : Nat) : Int) q9 q10 q11 q12 ((pl : Nat) : Int) qp iw nw nz ((0 : Nat) : Int) sd qs ik kc ((ks : Nat) : Int) kg ((kh : Nat) : Int) k26 k27 k28 k29 k30 k31 k32 hx, aI cI qk 5 K, aI cI qv 5 V, aI cI qh 7 SH, aI cI ql 7 SL] (.int (jI (sp_count nh ns K V (sp_sum SH SL (ns + 0)) ch hd pl co w))) := by
  refine jMR.of (own := RX6) (cc := cX6_count) (maxL := 2) (ret := (some .int)) rfl (by decide) rfl (Nat.le_of_ble_eq_true rfl) ?_
  intro X C E
  refine jw_lv (lv' := [(0, .ref g), (1, .int (jI w))]) [0, 1] rfl ?_
  refine jw_aload_n (pc := 0) C dX6_count_0 0 rfl ?_
  refine jw_iload_n (pc := 1) C dX6_count_1 1 rfl ?_
  refine jw_callRV (pc := 2) C [.int (jI w)] [] 1 (con_X6_howMany lau D cI cB g co nh qk qv ns qh ql ch hd q9 q10 q11 q12 pl qp iw nw nz sd qs ik kc ks kg kh k26 k27 k28 k29 k30 k31 k32 hx K V SH SL w (by omega) (by omega) hS hK hV hz (by omega)) gX6_count_X6_howMany rfl rfl rfl (by decide +kernel) ⟨Nat.le_of_ble_eq_true rfl, Nat.le_of_ble_eq_true rfl⟩ 0 rfl rfl [0, 1, 2, 3, 4] rfl rfl (Nat.le_of_ble_eq_true rfl) rfl dX6_count_2 ?_
  exact jw_iretR (pc := 5) C E dX6_count_5 rfl
theorem fl_X6_mix_225 : Cond.fieldLink RX6 225 "GongTideModel" "h" "J" ∈ wsX6_mix := by decide +kernel
theorem hi_X6_mix_X6 : ∀ w ∈ wsX60, w ∈ wsX6_mix := fun w h => List.mem_cons_of_mem _ (List.mem_append_right _ h)
theorem cn_X6_mix_223 : Cond.constantLong RX6 223 (31) ∈ wsX6_mix := by decide +kernel
def rmX6_mix : Room := { frames := 0, cells := 0, slots := 0, locals := 0 }
set_option maxHeartbeats 4000000 in
set_option maxRecDepth 100000 in
theorem con_X6_mix (lau : Launch) (D : va_G) (cI cB : ClassId) (g : Nat) (co : Int) (nh : Nat) (qk : Nat) (qv : Nat) (ns : Nat) (qh : Nat) (ql : Nat) (ch : Int) (hd : Nat) (q9 : Nat) (q10 : Nat) (q11 : Nat) (q12 : Nat) (pl : Nat) (qp : Nat) (iw : Int) (nw : Int) (nz : Int) (th : Nat) (sd : Int64) (qs : Nat) (ik : Int) (kc : Int) (ks : Nat) (kg : Int) (kh : Nat) (k26 : Nat) (k27 : Nat) (k28 : Nat) (k29 : Nat) (k30 : Nat) (k31 : Nat) (k32 : Nat) (hx : Int64) (v : Int64)  : jMW (S := Unit) lau yX6_mix wsX6_mix rmX6_mix D cI cB [.ref g, .long v] [oM g co ((nh : Nat) : Int) qk qv ((ns : Nat) : Int) qh ql ch ((hd : Nat) : Int) q9 q10 q11 q12 ((pl : Nat) : Int) qp iw nw nz ((th : Nat) : Int) sd qs ik kc ((ks : Nat) : Int) kg ((kh : Nat) : Int) k26 k27 k28 k29 k30 k31 k32 hx] (fun u => none) (fun u => True) (fun u => [oM g co ((nh : Nat) : Int) qk qv ((ns : Nat) : Int) qh ql ch ((hd : Nat) : Int) q9 q10 q11 q12 ((pl : Nat) : Int) qp iw nw nz ((th : Nat) : Int) sd qs ik kc ((ks : Nat) : Int) kg ((kh : Nat) : Int) k26 k27 k28 k29 k30 k31 k32 (31 * hx + v)]) := by
  refine jMW.of (own := RX6) (cc := cX6_mix) (maxL := 3) (ret := none) rfl (by decide) rfl (Nat.le_of_ble_eq_true rfl) ?_
  intro X C E
  refine jw_lv (lv' := [(0, .ref g), (1, .long v)]) [0, 1] rfl ?_
  refine jw_aload_n (pc := 0) C dX6_mix_0 0 rfl ?_
  refine jw_ldc2 (pc := 1) C dX6_mix_1 cn_X6_mix_223 ?_
  refine jw_aload_n (pc := 4) C dX6_mix_4 0 rfl ?_
  refine jw_get (pc := 5) C hi_X6_mix_X6 0 rfl rfl 33 (by decide) fl_X6_mix_225 rfl rfl dX6_mix_5 ?_
  refine jw_lmul (pc := 8) C (31 * hx) dX6_mix_8 rfl ?_
  refine jw_lload_n (pc := 9) C dX6_mix_9 1 rfl ?_
  refine jw_ladd (pc := 10) C ((31 * hx) + v) dX6_mix_10 rfl ?_
  refine jw_put (pc := 11) (ty := .long) (ws' := [oM g co ((nh : Nat) : Int) qk qv ((ns : Nat) : Int) qh ql ch ((hd : Nat) : Int) q9 q10 q11 q12 ((pl : Nat) : Int) qp iw nw nz ((th : Nat) : Int) sd qs ik kc ((ks : Nat) : Int) kg ((kh : Nat) : Int) k26 k27 k28 k29 k30 k31 k32 ((31 * hx) + v)]) C hi_X6_mix_X6 tyX6 tyX6_ok nmX6 0 rfl rfl 33 (by decide) fl_X6_mix_225 rfl rfl (by decide +kernel) rfl rfl (Nat.le_of_ble_eq_true rfl) rfl dX6_mix_11 ?_
  exact jw_vretW (pc := 14) C E dX6_mix_14 (()) rfl trivial rfl
theorem fl_X6_think_16 : Cond.fieldLink RX6 16 "GongTideModel" "hourOf" "[I" ∈ wsX6_think := by decide +kernel
theorem fl_X6_think_19 : Cond.fieldLink RX6 19 "GongTideModel" "loudOf" "[I" ∈ wsX6_think := by decide +kernel
theorem fl_X6_think_97 : Cond.fieldLink RX6 97 "GongTideModel" "strokes" "I" ∈ wsX6_think := by decide +kernel
theorem fl_X6_think_109 : Cond.fieldLink RX6 109 "GongTideModel" "thought" "I" ∈ wsX6_think := by decide +kernel
theorem hi_X6_think_X6 : ∀ w ∈ wsX60, w ∈ wsX6_think := fun w h => List.mem_cons_of_mem _ (List.mem_append_right _ h)
def rmX6_think : Room := { frames := 0, cells := 0, slots := 0, locals := 0 }
set_option maxHeartbeats 4000000 in
set_option maxRecDepth 100000 in
theorem con_X6_think (lau : Launch) (D : va_G) (cI cB : ClassId) (g : Nat) (co : Int) (nh : Nat) (qk : Nat) (qv : Nat) (ns : Nat) (qh : Nat) (ql : Nat) (ch : Int) (hd : Nat) (q9 : Nat) (q10 : Nat) (q11 : Nat) (q12 : Nat) (pl : Nat) (qp : Nat) (iw : Int) (nw : Int) (nz : Int) (th : Nat) (sd : Int64) (qs : Nat) (ik : Int) (kc : Int) (ks : Nat) (kg : Int) (kh : Nat) (k26 : Nat) (k27 : Nat) (k28 : Nat) (k29 : Nat) (k30 : Nat) (k31 : Nat) (k32 : Nat) (hx : Int64) (SH : Nat → Int) (SL : Nat → Int) (a : Int) (l : Int) (hns : ns ≤ 6) : jMW (S := Unit) lau yX6_think wsX6_think rmX6_think D cI cB [.ref g, .int (jI a), .int (jI l)] [oM g co ((nh : Nat) : Int) qk qv ((ns : Nat) : Int) qh ql ch ((hd : Nat) : Int) q9 q10 q11 q12 ((pl : Nat) : Int) qp iw nw nz ((th : Nat) : Int) sd qs ik kc ((ks : Nat) : Int) kg ((kh : Nat) : Int) k26 k27 k28 k29 k30 k31 k32 hx, aI cI qh 7 SH, aI cI ql 7 SL] (fun u => none) (fun u => True) (fun u => [oM g co ((nh : Nat) : Int) qk qv ((ns : Nat) : Int) qh ql ch ((hd : Nat) : Int) q9 q10 q11 q12 ((pl : Nat) : Int) qp iw nw nz ((1 : Nat) : Int) sd qs ik kc ((ks : Nat) : Int) kg ((kh : Nat) : Int) k26 k27 k28 k29 k30 k31 k32 hx, aI cI qh 7 (va_up SH ns a), aI cI ql 7 (va_up SL ns l)]) := by
  refine jMW.of (own := RX6) (cc := cX6_think) (maxL := 3) (ret := none) rfl (by decide) rfl (Nat.le_of_ble_eq_true rfl) ?_
  intro X C E
  refine jw_lv (lv' := [(0, .ref g), (1, .int (jI a)), (2, .int (jI l))]) [0, 1, 2] rfl ?_
  refine jw_aload_n (pc := 0) C dX6_think_0 0 rfl ?_
  refine jw_get (pc := 1) C hi_X6_think_X6 0 rfl rfl 5 (by decide) fl_X6_think_16 rfl rfl dX6_think_1 ?_
  refine jw_aload_n (pc := 4) C dX6_think_4 0 rfl ?_
  refine jw_get (pc := 5) C hi_X6_think_X6 0 rfl rfl 4 (by decide) fl_X6_think_97 rfl rfl dX6_think_5 ?_
  refine jw_iload_n (pc := 8) C dX6_think_8 1 rfl ?_
  refine jw_iast (pc := 9) C (f := SH) 1 ns rfl rfl (by omega) (by decide) (ws' := [oM g co ((nh : Nat) : Int) qk qv ((ns : Nat) : Int) qh ql ch ((hd : Nat) : Int) q9 q10 q11 q12 ((pl : Nat) : Int) qp iw nw nz ((th : Nat) : Int) sd qs ik kc ((ks : Nat) : Int) kg ((kh : Nat) : Int) k26 k27 k28 k29 k30 k31 k32 hx, aI cI qh 7 (va_up SH ns a), aI cI ql 7 SL]) rfl dX6_think_9 ?_
  refine jw_aload_n (pc := 10) C dX6_think_10 0 rfl ?_
  refine jw_get (pc := 11) C hi_X6_think_X6 0 rfl rfl 6 (by decide) fl_X6_think_19 rfl rfl dX6_think_11 ?_
  refine jw_aload_n (pc := 14) C dX6_think_14 0 rfl ?_
  refine jw_get (pc := 15) C hi_X6_think_X6 0 rfl rfl 4 (by decide) fl_X6_think_97 rfl rfl dX6_think_15 ?_
  refine jw_iload_n (pc := 18) C dX6_think_18 2 rfl ?_
  refine jw_iast (pc := 19) C (f := SL) 2 ns rfl rfl (by omega) (by decide) (ws' := [oM g co ((nh : Nat) : Int) qk qv ((ns : Nat) : Int) qh ql ch ((hd : Nat) : Int) q9 q10 q11 q12 ((pl : Nat) : Int) qp iw nw nz ((th : Nat) : Int) sd qs ik kc ((ks : Nat) : Int) kg ((kh : Nat) : Int) k26 k27 k28 k29 k30 k31 k32 hx, aI cI qh 7 (va_up SH ns a), aI cI ql 7 (va_up SL ns l)]) rfl dX6_think_19 ?_
  refine jw_aload_n (pc := 20) C dX6_think_20 0 rfl ?_
  refine jw_iconst (pc := 21) C dX6_think_21 ?_
  refine jw_put (pc := 22) (ty := .int) (ws' := [oM g co ((nh : Nat) : Int) qk qv ((ns : Nat) : Int) qh ql ch ((hd : Nat) : Int) q9 q10 q11 q12 ((pl : Nat) : Int) qp iw nw nz 1 sd qs ik kc ((ks : Nat) : Int) kg ((kh : Nat) : Int) k26 k27 k28 k29 k30 k31 k32 hx, aI cI qh 7 (va_up SH ns a), aI cI ql 7 (va_up SL ns l)]) C hi_X6_think_X6 tyX6 tyX6_ok nmX6 0 rfl rfl 18 (by decide) fl_X6_think_109 rfl rfl (by decide +kernel) rfl rfl (Nat.le_of_ble_eq_true rfl) rfl dX6_think_22 ?_
  exact jw_vretW (pc := 25) C E dX6_think_25 (()) rfl trivial rfl
theorem fl_X6_draw_186 : Cond.fieldLink RX6 186 "GongTideModel" "seedNow" "J" ∈ wsX6_draw := by decide +kernel
theorem hi_X6_draw_X6 : ∀ w ∈ wsX60, w ∈ wsX6_draw := fun w h => List.mem_cons_of_mem _ (List.mem_append_right _ h)
theorem cn_X6_draw_184 : Cond.constantLong RX6 184 (1103515245) ∈ wsX6_draw := by decide +kernel
theorem cn_X6_draw_190 : Cond.constantLong RX6 190 (12345) ∈ wsX6_draw := by decide +kernel
theorem cn_X6_draw_192 : Cond.constantLong RX6 192 (2147483647) ∈ wsX6_draw := by decide +kernel
theorem cn_X6_draw_194 : Cond.constantLong RX6 194 (65536) ∈ wsX6_draw := by decide +kernel
def rmX6_draw : Room := { frames := 0, cells := 0, slots := 0, locals := 0 }
set_option maxHeartbeats 4000000 in
set_option maxRecDepth 100000 in
theorem con_X6_draw (lau : Launch) (D : va_G) (cI cB : ClassId) (g : Nat) (co : Int) (nh : Nat) (qk : Nat) (qv : Nat) (ns : Nat) (qh : Nat) (ql : Nat) (ch : Int) (hd : Nat) (q9 : Nat) (q10 : Nat) (q11 : Nat) (q12 : Nat) (pl : Nat) (qp : Nat) (iw : Int) (nw : Int) (nz : Int) (th : Nat) (qs : Nat) (ik : Int) (kc : Int) (ks : Nat) (kg : Int) (kh : Nat) (k26 : Nat) (k27 : Nat) (k28 : Nat) (k29 : Nat) (k30 : Nat) (k31 : Nat) (k32 : Nat) (hx : Int64) (s : Int) (hs : 0 ≤ s ∧ s < 2147483648) : jMW (S := Unit) lau yX6_draw wsX6_draw rmX6_draw D cI cB [.ref g, .int (jI 10)] [oM g co ((nh : Nat) : Int) qk qv ((ns : Nat) : Int) qh ql ch ((hd : Nat) : Int) q9 q10 q11 q12 ((pl : Nat) : Int) qp iw nw nz ((th : Nat) : Int) (jL s) qs ik kc ((ks : Nat) : Int) kg ((kh : Nat) : Int) k26 k27 k28 k29 k30 k31 k32 hx] (fun u => some (.int (jI (sp_nx s / 65536 % 10)))) (fun u => True) (fun u => [oM g co ((nh : Nat) : Int) qk qv ((ns : Nat) : Int) qh ql ch ((hd : Nat) : Int) q9 q10 q11 q12 ((pl : Nat) : Int) qp iw nw nz ((th : Nat) : Int) (jL (sp_nx s)) qs ik kc ((ks : Nat) : Int) kg ((kh : Nat) : Int) k26 k27 k28 k29 k30 k31 k32 hx]) := by
  refine jMW.of (own := RX6) (cc := cX6_draw) (maxL := 2) (ret := (some .int)) rfl (by decide) rfl (Nat.le_of_ble_eq_true rfl) ?_
  intro X C E
  refine jw_lv (lv' := [(0, .ref g), (1, .int (jI 10))]) [0, 1] rfl ?_
  have hnb := sp_nx_b s
  refine jw_aload_n (pc := 0) C dX6_draw_0 0 rfl ?_
  refine jw_ldc2 (pc := 1) C dX6_draw_1 cn_X6_draw_184 ?_
  refine jw_aload_n (pc := 4) C dX6_draw_4 0 rfl ?_
  refine jw_get (pc := 5) C hi_X6_draw_X6 0 rfl rfl 19 (by decide) fl_X6_draw_186 rfl rfl dX6_draw_5 ?_
  refine jw_lmul (pc := 8) C (jL (1103515245 * s)) dX6_draw_8 (by rw [show (1103515245 : Int64) = jL 1103515245 by decide +kernel, jL_mul]) ?_
  refine jw_ldc2 (pc := 9) C dX6_draw_9 cn_X6_draw_190 ?_
  refine jw_ladd (pc := 12) C (jL (1103515245 * s + 12345)) dX6_draw_12 (by rw [show (12345 : Int64) = jL 12345 by decide +kernel, jL_add]) ?_
  refine jw_ldc2 (pc := 13) C dX6_draw_13 cn_X6_draw_192 ?_
  refine jw_land (pc := 16) C (jL (sp_nx s)) dX6_draw_16 (by rw [show (2147483647 : Int64) = jL 2147483647 by decide +kernel]; exact jL_mask (by omega)) ?_
  refine jw_put (pc := 17) (ty := .long) (ws' := [oM g co ((nh : Nat) : Int) qk qv ((ns : Nat) : Int) qh ql ch ((hd : Nat) : Int) q9 q10 q11 q12 ((pl : Nat) : Int) qp iw nw nz ((th : Nat) : Int) (jL (sp_nx s)) qs ik kc ((ks : Nat) : Int) kg ((kh : Nat) : Int) k26 k27 k28 k29 k30 k31 k32 hx]) C hi_X6_draw_X6 tyX6 tyX6_ok nmX6 0 rfl rfl 19 (by decide) fl_X6_draw_186 rfl rfl (by decide +kernel) rfl rfl (Nat.le_of_ble_eq_true rfl) rfl dX6_draw_17 ?_
  refine jw_aload_n (pc := 20) C dX6_draw_20 0 rfl ?_
  refine jw_get (pc := 21) C hi_X6_draw_X6 0 rfl rfl 19 (by decide) fl_X6_draw_186 rfl rfl dX6_draw_21 ?_
  refine jw_ldc2 (pc := 24) C dX6_draw_24 cn_X6_draw_194 ?_
  refine jw_ldiv (pc := 27) C (jL (sp_nx s / 65536)) dX6_draw_27 (by decide +kernel) (by rw [show (65536 : Int64) = jL 65536 by decide +kernel]; exact jL_div (by omega) (by omega)) ?_
  refine jw_iload_n (pc := 28) C dX6_draw_28 1 rfl ?_
  refine jw_i2l (pc := 29) C (jL 10) dX6_draw_29 (jL_i (by omega)) ?_
  refine jw_lrem (pc := 30) C (jL (sp_nx s / 65536 % 10)) dX6_draw_30 (jL_ne0 (by omega)) (jL_rem (by omega) (by omega)) ?_
  refine jw_l2i (pc := 31) C (jI (sp_nx s / 65536 % 10)) dX6_draw_31 (jL_32 _) ?_
  exact jw_iretW (pc := 32) C E dX6_draw_32 (()) rfl trivial rfl
theorem fl_X6_letter_34 : Cond.fieldLink RX6 34 "GongTideModel" "page" "[B" ∈ wsX6_letter := by decide +kernel
theorem fl_X6_letter_66 : Cond.fieldLink RX6 66 "GongTideModel" "pageLength" "I" ∈ wsX6_letter := by decide +kernel
theorem hi_X6_letter_X6 : ∀ w ∈ wsX60, w ∈ wsX6_letter := fun w h => List.mem_cons_of_mem _ (List.mem_append_right _ h)
def rmX6_letter : Room := { frames := 1, cells := 0, slots := 0, locals := 22 }
set_option maxHeartbeats 4000000 in
set_option maxRecDepth 100000 in
theorem con_X6_letter (lau : Launch) (D : va_G) (cI cB : ClassId) (g : Nat) (co : Int) (nh : Nat) (qk : Nat) (qv : Nat) (ns : Nat) (qh : Nat) (ql : Nat) (ch : Int) (hd : Nat) (q9 : Nat) (q10 : Nat) (q11 : Nat) (q12 : Nat) (pl : Nat) (qp : Nat) (iw : Int) (nw : Int) (nz : Int) (th : Nat) (sd : Int64) (qs : Nat) (ik : Int) (kc : Int) (ks : Nat) (kg : Int) (kh : Nat) (k26 : Nat) (k27 : Nat) (k28 : Nat) (k29 : Nat) (k30 : Nat) (k31 : Nat) (k32 : Nat) (hx : Int64) (P : Nat → Int) (c : Int) (hc : 32 ≤ c ∧ c ≤ 126) (hpl : pl < 25) : jMW (S := Unit) lau yX6_letter wsX6_letter rmX6_letter D cI cB [.ref g, .int (jI c)] [oM g co ((nh : Nat) : Int) qk qv ((ns : Nat) : Int) qh ql ch ((hd : Nat) : Int) q9 q10 q11 q12 ((pl : Nat) : Int) qp iw nw nz ((th : Nat) : Int) sd qs ik kc ((ks : Nat) : Int) kg ((kh : Nat) : Int) k26 k27 k28 k29 k30 k31 k32 hx, aI cB qp 25 P] (fun u => some (.int (jI ((pl + 1 : Nat) : Int)))) (fun u => True) (fun u => [oM g co ((nh : Nat) : Int) qk qv ((ns : Nat) : Int) qh ql ch ((hd : Nat) : Int) q9 q10 q11 q12 ((pl + 1 : Nat) : Int) qp iw nw nz ((th : Nat) : Int) sd qs ik kc ((ks : Nat) : Int) kg ((kh : Nat) : Int) k26 k27 k28 k29 k30 k31 k32 hx, aI cB qp 25 (va_up P pl c)]) := by
  refine jMW.of (own := RX6) (cc := cX6_letter) (maxL := 2) (ret := (some .int)) rfl (by decide) rfl (Nat.le_of_ble_eq_true rfl) ?_
  intro X C E
  refine jw_lv (lv' := [(0, .ref g), (1, .int (jI c))]) [0, 1] rfl ?_
  refine jw_iload_n (pc := 0) C dX6_letter_0 1 rfl ?_
  refine jw_bipush (pc := 1) C dX6_letter_1 (by decide +kernel) ?_
  refine jw_bipush (pc := 3) C dX6_letter_3 (by decide +kernel) ?_
  refine jw_callRS (pc := 5) C [.int (jI c), .int (jI 32), .int (jI 126)] [] 3 (con_X6_within lau D cI cB c 32 126 (by omega) (by omega) (by omega)) gX6_letter_X6_within rfl rfl rfl (by decide +kernel) ⟨Nat.le_of_ble_eq_true rfl, Nat.le_of_ble_eq_true rfl⟩ [] rfl rfl (Nat.le_of_ble_eq_true rfl) rfl dX6_letter_5 ?_
  refine jw_ifb_ne (pc := 8) (tgt := 14) C dX6_letter_8 (by decide) (fun c_8 => ?_) (fun c_8 => ?_)
  · -- 8 t
    refine jw_aload_n (pc := 14) C dX6_letter_14 0 rfl ?_
    refine jw_get (pc := 15) C hi_X6_letter_X6 0 rfl rfl 13 (by decide) fl_X6_letter_66 rfl rfl dX6_letter_15 ?_
    refine jw_bipush (pc := 18) C dX6_letter_18 (by decide +kernel) ?_
    refine jw_icmp_ne (pc := 20) (tgt := 26) C dX6_letter_20 (by decide) (by omega) (by omega) (fun c_20 => ?_) (fun c_20 => ?_)
    · -- 20 t
      refine jw_aload_n (pc := 26) C dX6_letter_26 0 rfl ?_
      refine jw_get (pc := 27) C hi_X6_letter_X6 0 rfl rfl 14 (by decide) fl_X6_letter_34 rfl rfl dX6_letter_27 ?_
      refine jw_aload_n (pc := 30) C dX6_letter_30 0 rfl ?_
      refine jw_get (pc := 31) C hi_X6_letter_X6 0 rfl rfl 13 (by decide) fl_X6_letter_66 rfl rfl dX6_letter_31 ?_
      refine jw_iload_n (pc := 34) C dX6_letter_34 1 rfl ?_
      refine jw_i2b (pc := 35) C (jI c) dX6_letter_35 (jI_i2b hc) ?_
      refine jw_bast (pc := 36) C (f := P) 1 pl rfl rfl (by omega) (by decide) (jI_i2b hc) (ws' := [oM g co ((nh : Nat) : Int) qk qv ((ns : Nat) : Int) qh ql ch ((hd : Nat) : Int) q9 q10 q11 q12 ((pl : Nat) : Int) qp iw nw nz ((th : Nat) : Int) sd qs ik kc ((ks : Nat) : Int) kg ((kh : Nat) : Int) k26 k27 k28 k29 k30 k31 k32 hx, aI cB qp 25 (va_up P pl c)]) rfl dX6_letter_36 ?_
      refine jw_aload_n (pc := 37) C dX6_letter_37 0 rfl ?_
      refine jw_dup (pc := 38) C dX6_letter_38 rfl ?_
      refine jw_get (pc := 39) C hi_X6_letter_X6 0 rfl rfl 13 (by decide) fl_X6_letter_66 rfl rfl dX6_letter_39 ?_
      refine jw_iconst (pc := 42) C dX6_letter_42 ?_
      refine jw_iadd (pc := 43) (z := ((pl + 1 : Nat) : Int)) C dX6_letter_43 (by omega) ?_
      refine jw_put (pc := 44) (ty := .int) (ws' := [oM g co ((nh : Nat) : Int) qk qv ((ns : Nat) : Int) qh ql ch ((hd : Nat) : Int) q9 q10 q11 q12 ((pl + 1 : Nat) : Int) qp iw nw nz ((th : Nat) : Int) sd qs ik kc ((ks : Nat) : Int) kg ((kh : Nat) : Int) k26 k27 k28 k29 k30 k31 k32 hx, aI cB qp 25 (va_up P pl c)]) C hi_X6_letter_X6 tyX6 tyX6_ok nmX6 0 rfl rfl 13 (by decide) fl_X6_letter_66 rfl rfl (by decide +kernel) rfl rfl (Nat.le_of_ble_eq_true rfl) rfl dX6_letter_44 ?_
      refine jw_aload_n (pc := 47) C dX6_letter_47 0 rfl ?_
      refine jw_get (pc := 48) C hi_X6_letter_X6 0 rfl rfl 13 (by decide) fl_X6_letter_66 rfl rfl dX6_letter_48 ?_
      exact jw_iretW (pc := 51) C E dX6_letter_51 (()) rfl trivial rfl
    · exfalso; omega
  · exfalso; omega
set_option maxHeartbeats 4000000 in
set_option maxRecDepth 100000 in
theorem con_X6_letterF (lau : Launch) (D : va_G) (cI cB : ClassId) (g : Nat) (co : Int) (nh : Nat) (qk : Nat) (qv : Nat) (ns : Nat) (qh : Nat) (ql : Nat) (ch : Int) (hd : Nat) (q9 : Nat) (q10 : Nat) (q11 : Nat) (q12 : Nat) (pl : Nat) (qp : Nat) (iw : Int) (nw : Int) (nz : Int) (th : Nat) (sd : Int64) (qs : Nat) (ik : Int) (kc : Int) (ks : Nat) (kg : Int) (kh : Nat) (k26 : Nat) (k27 : Nat) (k28 : Nat) (k29 : Nat) (k30 : Nat) (k31 : Nat) (k32 : Nat) (hx : Int64) (c : Int) (hc : -2147483648 ≤ c ∧ c < 2147483648) (hpl : pl ≤ 25) (hrf : ¬ (32 ≤ c ∧ c ≤ 126) ∨ pl = 25) : jMR lau yX6_letter wsX6_letter rmX6_letter D cI cB [.ref g, .int (jI c)] [oM g co ((nh : Nat) : Int) qk qv ((ns : Nat) : Int) qh ql ch ((hd : Nat) : Int) q9 q10 q11 q12 ((pl : Nat) : Int) qp iw nw nz ((th : Nat) : Int) sd qs ik kc ((ks : Nat) : Int) kg ((kh : Nat) : Int) k26 k27 k28 k29 k30 k31 k32 hx] (.int (jI (sp_letF c))) := by
  refine jMR.of (own := RX6) (cc := cX6_letter) (maxL := 2) (ret := (some .int)) rfl (by decide) rfl (Nat.le_of_ble_eq_true rfl) ?_
  intro X C E
  refine jw_lv (lv' := [(0, .ref g), (1, .int (jI c))]) [0, 1] rfl ?_
  refine jw_iload_n (pc := 0) C dX6_letter_0 1 rfl ?_
  refine jw_bipush (pc := 1) C dX6_letter_1 (by decide +kernel) ?_
  refine jw_bipush (pc := 3) C dX6_letter_3 (by decide +kernel) ?_
  refine jw_callRS (pc := 5) C [.int (jI c), .int (jI 32), .int (jI 126)] [] 3 (con_X6_within lau D cI cB c 32 126 (by omega) (by omega) (by omega)) gX6_letter_X6_within rfl rfl rfl (by decide +kernel) ⟨Nat.le_of_ble_eq_true rfl, Nat.le_of_ble_eq_true rfl⟩ [] rfl rfl (Nat.le_of_ble_eq_true rfl) rfl dX6_letter_5 ?_
  refine jw_ifb_ne (pc := 8) (tgt := 14) C dX6_letter_8 (by decide) (fun c_8 => ?_) (fun c_8 => ?_)
  · -- 8 t
    refine jw_aload_n (pc := 14) C dX6_letter_14 0 rfl ?_
    refine jw_get (pc := 15) C hi_X6_letter_X6 0 rfl rfl 13 (by decide) fl_X6_letter_66 rfl rfl dX6_letter_15 ?_
    refine jw_bipush (pc := 18) C dX6_letter_18 (by decide +kernel) ?_
    refine jw_icmp_ne (pc := 20) (tgt := 26) C dX6_letter_20 (by decide) (by omega) (by omega) (fun c_20 => ?_) (fun c_20 => ?_)
    · exfalso; omega
    · -- 20 f
      refine jw_bipush (pc := 23) C dX6_letter_23 (by decide +kernel) ?_
      exact jw_iretR (pc := 25) C E dX6_letter_25 (congrArg jI (by unfold sp_letF; (repeat' split) <;> omega))
  · -- 8 f
    refine jw_bipush (pc := 11) C dX6_letter_11 (by decide +kernel) ?_
    exact jw_iretR (pc := 13) C E dX6_letter_13 (congrArg jI (by unfold sp_letF; (repeat' split) <;> omega))
theorem fl_X6_blank_66 : Cond.fieldLink RX6 66 "GongTideModel" "pageLength" "I" ∈ wsX6_blank := by decide +kernel
theorem hi_X6_blank_X6 : ∀ w ∈ wsX60, w ∈ wsX6_blank := fun w h => List.mem_cons_of_mem _ (List.mem_append_right _ h)
def rmX6_blank : Room := { frames := 0, cells := 0, slots := 0, locals := 0 }
set_option maxHeartbeats 4000000 in
set_option maxRecDepth 100000 in
theorem con_X6_blank (lau : Launch) (D : va_G) (cI cB : ClassId) (g : Nat) (co : Int) (nh : Nat) (qk : Nat) (qv : Nat) (ns : Nat) (qh : Nat) (ql : Nat) (ch : Int) (hd : Nat) (q9 : Nat) (q10 : Nat) (q11 : Nat) (q12 : Nat) (pl : Nat) (qp : Nat) (iw : Int) (nw : Int) (nz : Int) (th : Nat) (sd : Int64) (qs : Nat) (ik : Int) (kc : Int) (ks : Nat) (kg : Int) (kh : Nat) (k26 : Nat) (k27 : Nat) (k28 : Nat) (k29 : Nat) (k30 : Nat) (k31 : Nat) (k32 : Nat) (hx : Int64)  : jMW (S := Unit) lau yX6_blank wsX6_blank rmX6_blank D cI cB [.ref g] [oM g co ((nh : Nat) : Int) qk qv ((ns : Nat) : Int) qh ql ch ((hd : Nat) : Int) q9 q10 q11 q12 ((pl : Nat) : Int) qp iw nw nz ((th : Nat) : Int) sd qs ik kc ((ks : Nat) : Int) kg ((kh : Nat) : Int) k26 k27 k28 k29 k30 k31 k32 hx] (fun u => some (.int (jI ((pl : Nat) : Int)))) (fun u => True) (fun u => [oM g co ((nh : Nat) : Int) qk qv ((ns : Nat) : Int) qh ql ch ((hd : Nat) : Int) q9 q10 q11 q12 ((0 : Nat) : Int) qp iw nw nz ((th : Nat) : Int) sd qs ik kc ((ks : Nat) : Int) kg ((kh : Nat) : Int) k26 k27 k28 k29 k30 k31 k32 hx]) := by
  refine jMW.of (own := RX6) (cc := cX6_blank) (maxL := 2) (ret := (some .int)) rfl (by decide) rfl (Nat.le_of_ble_eq_true rfl) ?_
  intro X C E
  refine jw_lv (lv' := [(0, .ref g)]) [0] rfl ?_
  refine jw_aload_n (pc := 0) C dX6_blank_0 0 rfl ?_
  refine jw_get (pc := 1) C hi_X6_blank_X6 0 rfl rfl 13 (by decide) fl_X6_blank_66 rfl rfl dX6_blank_1 ?_
  refine jw_istore_n (pc := 4) (lv' := [(1, .int (jI ((pl : Nat) : Int))), (0, .ref g)]) C dX6_blank_4 (by decide) rfl ?_
  refine jw_aload_n (pc := 5) C dX6_blank_5 1 rfl ?_
  refine jw_iconst (pc := 6) C dX6_blank_6 ?_
  refine jw_put (pc := 7) (ty := .int) (ws' := [oM g co ((nh : Nat) : Int) qk qv ((ns : Nat) : Int) qh ql ch ((hd : Nat) : Int) q9 q10 q11 q12 0 qp iw nw nz ((th : Nat) : Int) sd qs ik kc ((ks : Nat) : Int) kg ((kh : Nat) : Int) k26 k27 k28 k29 k30 k31 k32 hx]) C hi_X6_blank_X6 tyX6 tyX6_ok nmX6 0 rfl rfl 13 (by decide) fl_X6_blank_66 rfl rfl (by decide +kernel) rfl rfl (Nat.le_of_ble_eq_true rfl) rfl dX6_blank_7 ?_
  refine jw_iload_n (pc := 10) C dX6_blank_10 0 rfl ?_
  exact jw_iretW (pc := 11) C E dX6_blank_11 (()) rfl trivial rfl
theorem fl_X6_raise_13 : Cond.fieldLink RX6 13 "GongTideModel" "levelOf" "[I" ∈ wsX6_raise := by decide +kernel
theorem fl_X6_raise_103 : Cond.fieldLink RX6 103 "GongTideModel" "changes" "I" ∈ wsX6_raise := by decide +kernel
theorem hi_X6_raise_X6 : ∀ w ∈ wsX60, w ∈ wsX6_raise := fun w h => List.mem_cons_of_mem _ (List.mem_append_right _ h)
def rmX6_raise : Room := { frames := 2, cells := 0, slots := 0, locals := 43 }
set_option maxHeartbeats 4000000 in
set_option maxRecDepth 100000 in
theorem con_X6_raise (lau : Launch) (D : va_G) (cI cB : ClassId) (g : Nat) (co : Int) (nh : Nat) (qk : Nat) (qv : Nat) (ns : Nat) (qh : Nat) (ql : Nat) (ch : Int) (hd : Nat) (q9 : Nat) (q10 : Nat) (q11 : Nat) (q12 : Nat) (pl : Nat) (qp : Nat) (iw : Int) (nw : Int) (nz : Int) (th : Nat) (sd : Int64) (qs : Nat) (ik : Int) (kc : Int) (ks : Nat) (kg : Int) (kh : Nat) (k26 : Nat) (k27 : Nat) (k28 : Nat) (k29 : Nat) (k30 : Nat) (k31 : Nat) (k32 : Nat) (hx : Int64) (V : Nat → Int) (k : Nat) (v : Int) (hnh : nh ≤ 5) (hk : k < nh) (hv : 0 ≤ v ∧ v ≤ 9) : jMW (S := Unit) lau yX6_raise wsX6_raise rmX6_raise D cI cB [.ref g, .int (jI ((k : Nat) : Int)), .int (jI v)] [oM g co ((nh : Nat) : Int) qk qv ((ns : Nat) : Int) qh ql ch ((hd : Nat) : Int) q9 q10 q11 q12 ((pl : Nat) : Int) qp iw nw nz ((th : Nat) : Int) sd qs ik kc ((ks : Nat) : Int) kg ((kh : Nat) : Int) k26 k27 k28 k29 k30 k31 k32 hx, aI cI qv 5 V] (fun u => some (.int (jI (V k)))) (fun u => True) (fun u => [oM g co ((nh : Nat) : Int) qk qv ((ns : Nat) : Int) qh ql (ch + 1) ((hd : Nat) : Int) q9 q10 q11 q12 ((pl : Nat) : Int) qp iw nw nz ((th : Nat) : Int) sd qs ik kc ((ks : Nat) : Int) kg ((kh : Nat) : Int) k26 k27 k28 k29 k30 k31 k32 hx, aI cI qv 5 (va_up V k v)]) := by
  refine jMW.of (own := RX6) (cc := cX6_raise) (maxL := 4) (ret := (some .int)) rfl (by decide) rfl (Nat.le_of_ble_eq_true rfl) ?_
  intro X C E
  refine jw_lv (lv' := [(0, .ref g), (1, .int (jI ((k : Nat) : Int))), (2, .int (jI v))]) [0, 1, 2] rfl ?_
  refine jw_aload_n (pc := 0) C dX6_raise_0 0 rfl ?_
  refine jw_iload_n (pc := 1) C dX6_raise_1 1 rfl ?_
  refine jw_callRV (pc := 2) C [.int (jI ((((k : Nat) : Int))))] [] 1 (con_X6_isHouse lau D cI cB g co nh qk qv ns qh ql ch hd q9 q10 q11 q12 pl qp iw nw nz th sd qs ik kc ks kg kh k26 k27 k28 k29 k30 k31 k32 hx (((k : Nat) : Int)) (by omega) (by omega)) gX6_raise_X6_isHouse rfl rfl rfl (by decide +kernel) ⟨Nat.le_of_ble_eq_true rfl, Nat.le_of_ble_eq_true rfl⟩ 0 rfl rfl [0] rfl rfl (Nat.le_of_ble_eq_true rfl) rfl dX6_raise_2 ?_
  refine jw_ifb_ne (pc := 5) (tgt := 11) C dX6_raise_5 (by decide) (fun c_5 => ?_) (fun c_5 => ?_)
  · -- 5 t
    refine jw_iload_n (pc := 11) C dX6_raise_11 2 rfl ?_
    refine jw_iconst (pc := 12) C dX6_raise_12 ?_
    refine jw_bipush (pc := 13) C dX6_raise_13 (by decide +kernel) ?_
    refine jw_callRS (pc := 15) C [.int (jI v), .int (jI 0), .int (jI 9)] [] 3 (con_X6_within lau D cI cB v 0 9 (by omega) (by omega) (by omega)) gX6_raise_X6_within rfl rfl rfl (by decide +kernel) ⟨Nat.le_of_ble_eq_true rfl, Nat.le_of_ble_eq_true rfl⟩ [] rfl rfl (Nat.le_of_ble_eq_true rfl) rfl dX6_raise_15 ?_
    refine jw_ifb_ne (pc := 18) (tgt := 24) C dX6_raise_18 (by decide) (fun c_18 => ?_) (fun c_18 => ?_)
    · -- 18 t
      refine jw_aload_n (pc := 24) C dX6_raise_24 0 rfl ?_
      refine jw_get (pc := 25) C hi_X6_raise_X6 0 rfl rfl 3 (by decide) fl_X6_raise_13 rfl rfl dX6_raise_25 ?_
      refine jw_iload_n (pc := 28) C dX6_raise_28 1 rfl ?_
      refine jw_iald (pc := 29) C (f := V) 1 k rfl rfl (by omega) (by decide) dX6_raise_29 ?_
      refine jw_istore_n (pc := 30) (lv' := [(3, .int (jI (V k))), (0, .ref g), (1, .int (jI ((k : Nat) : Int))), (2, .int (jI v))]) C dX6_raise_30 (by decide) rfl ?_
      refine jw_aload_n (pc := 31) C dX6_raise_31 1 rfl ?_
      refine jw_get (pc := 32) C hi_X6_raise_X6 0 rfl rfl 3 (by decide) fl_X6_raise_13 rfl rfl dX6_raise_32 ?_
      refine jw_iload_n (pc := 35) C dX6_raise_35 2 rfl ?_
      refine jw_iload_n (pc := 36) C dX6_raise_36 3 rfl ?_
      refine jw_iast (pc := 37) C (f := V) 1 k rfl rfl (by omega) (by decide) (ws' := [oM g co ((nh : Nat) : Int) qk qv ((ns : Nat) : Int) qh ql ch ((hd : Nat) : Int) q9 q10 q11 q12 ((pl : Nat) : Int) qp iw nw nz ((th : Nat) : Int) sd qs ik kc ((ks : Nat) : Int) kg ((kh : Nat) : Int) k26 k27 k28 k29 k30 k31 k32 hx, aI cI qv 5 (va_up V k v)]) rfl dX6_raise_37 ?_
      refine jw_aload_n (pc := 38) C dX6_raise_38 1 rfl ?_
      refine jw_dup (pc := 39) C dX6_raise_39 rfl ?_
      refine jw_get (pc := 40) C hi_X6_raise_X6 0 rfl rfl 7 (by decide) fl_X6_raise_103 rfl rfl dX6_raise_40 ?_
      refine jw_iconst (pc := 43) C dX6_raise_43 ?_
      refine jw_iadd (pc := 44) (z := (ch + 1)) C dX6_raise_44 rfl ?_
      refine jw_put (pc := 45) (ty := .int) (ws' := [oM g co ((nh : Nat) : Int) qk qv ((ns : Nat) : Int) qh ql (ch + 1) ((hd : Nat) : Int) q9 q10 q11 q12 ((pl : Nat) : Int) qp iw nw nz ((th : Nat) : Int) sd qs ik kc ((ks : Nat) : Int) kg ((kh : Nat) : Int) k26 k27 k28 k29 k30 k31 k32 hx, aI cI qv 5 (va_up V k v)]) C hi_X6_raise_X6 tyX6 tyX6_ok nmX6 0 rfl rfl 7 (by decide) fl_X6_raise_103 rfl rfl (by decide +kernel) rfl rfl (Nat.le_of_ble_eq_true rfl) rfl dX6_raise_45 ?_
      refine jw_iload_n (pc := 48) C dX6_raise_48 0 rfl ?_
      exact jw_iretW (pc := 49) C E dX6_raise_49 (()) rfl trivial rfl
    · exfalso; omega
  · exfalso; omega
set_option maxHeartbeats 4000000 in
set_option maxRecDepth 100000 in
theorem con_X6_raiseF (lau : Launch) (D : va_G) (cI cB : ClassId) (g : Nat) (co : Int) (nh : Nat) (qk : Nat) (qv : Nat) (ns : Nat) (qh : Nat) (ql : Nat) (ch : Int) (hd : Nat) (q9 : Nat) (q10 : Nat) (q11 : Nat) (q12 : Nat) (pl : Nat) (qp : Nat) (iw : Int) (nw : Int) (nz : Int) (th : Nat) (sd : Int64) (qs : Nat) (ik : Int) (kc : Int) (ks : Nat) (kg : Int) (kh : Nat) (k26 : Nat) (k27 : Nat) (k28 : Nat) (k29 : Nat) (k30 : Nat) (k31 : Nat) (k32 : Nat) (hx : Int64) (z : Int) (v : Int) (hnh : nh ≤ 5) (hz : -2147483648 ≤ z ∧ z < 2147483648) (hv : -2147483648 ≤ v ∧ v < 2147483648) (hrf : ¬ ((0 ≤ z ∧ z ≤ ((nh : Nat) : Int) - 1) ∧ (0 ≤ v ∧ v ≤ 9))) : jMR lau yX6_raise wsX6_raise rmX6_raise D cI cB [.ref g, .int (jI z), .int (jI v)] [oM g co ((nh : Nat) : Int) qk qv ((ns : Nat) : Int) qh ql ch ((hd : Nat) : Int) q9 q10 q11 q12 ((pl : Nat) : Int) qp iw nw nz ((th : Nat) : Int) sd qs ik kc ((ks : Nat) : Int) kg ((kh : Nat) : Int) k26 k27 k28 k29 k30 k31 k32 hx] (.int (jI (sp_ref nh z))) := by
  refine jMR.of (own := RX6) (cc := cX6_raise) (maxL := 4) (ret := (some .int)) rfl (by decide) rfl (Nat.le_of_ble_eq_true rfl) ?_
  intro X C E
  refine jw_lv (lv' := [(0, .ref g), (1, .int (jI z)), (2, .int (jI v))]) [0, 1, 2] rfl ?_
  refine jw_aload_n (pc := 0) C dX6_raise_0 0 rfl ?_
  refine jw_iload_n (pc := 1) C dX6_raise_1 1 rfl ?_
  refine jw_callRV (pc := 2) C [.int (jI z)] [] 1 (con_X6_isHouse lau D cI cB g co nh qk qv ns qh ql ch hd q9 q10 q11 q12 pl qp iw nw nz th sd qs ik kc ks kg kh k26 k27 k28 k29 k30 k31 k32 hx z (by omega) (by omega)) gX6_raise_X6_isHouse rfl rfl rfl (by decide +kernel) ⟨Nat.le_of_ble_eq_true rfl, Nat.le_of_ble_eq_true rfl⟩ 0 rfl rfl [0] rfl rfl (Nat.le_of_ble_eq_true rfl) rfl dX6_raise_2 ?_
  refine jw_ifb_ne (pc := 5) (tgt := 11) C dX6_raise_5 (by decide) (fun c_5 => ?_) (fun c_5 => ?_)
  · -- 5 t
    refine jw_iload_n (pc := 11) C dX6_raise_11 2 rfl ?_
    refine jw_iconst (pc := 12) C dX6_raise_12 ?_
    refine jw_bipush (pc := 13) C dX6_raise_13 (by decide +kernel) ?_
    refine jw_callRS (pc := 15) C [.int (jI v), .int (jI 0), .int (jI 9)] [] 3 (con_X6_within lau D cI cB v 0 9 (by omega) (by omega) (by omega)) gX6_raise_X6_within rfl rfl rfl (by decide +kernel) ⟨Nat.le_of_ble_eq_true rfl, Nat.le_of_ble_eq_true rfl⟩ [] rfl rfl (Nat.le_of_ble_eq_true rfl) rfl dX6_raise_15 ?_
    refine jw_ifb_ne (pc := 18) (tgt := 24) C dX6_raise_18 (by decide) (fun c_18 => ?_) (fun c_18 => ?_)
    · exfalso; omega
    · -- 18 f
      refine jw_bipush (pc := 21) C dX6_raise_21 (by decide +kernel) ?_
      exact jw_iretR (pc := 23) C E dX6_raise_23 (congrArg jI (by unfold sp_ref; (repeat' split) <;> omega))
  · -- 5 f
    refine jw_bipush (pc := 8) C dX6_raise_8 (by decide +kernel) ?_
    exact jw_iretR (pc := 10) C E dX6_raise_10 (congrArg jI (by unfold sp_ref; (repeat' split) <;> omega))
theorem fl_X6_strike_16 : Cond.fieldLink RX6 16 "GongTideModel" "hourOf" "[I" ∈ wsX6_strike := by decide +kernel
theorem fl_X6_strike_19 : Cond.fieldLink RX6 19 "GongTideModel" "loudOf" "[I" ∈ wsX6_strike := by decide +kernel
theorem fl_X6_strike_94 : Cond.fieldLink RX6 94 "GongTideModel" "houses" "I" ∈ wsX6_strike := by decide +kernel
theorem fl_X6_strike_97 : Cond.fieldLink RX6 97 "GongTideModel" "strokes" "I" ∈ wsX6_strike := by decide +kernel
theorem fl_X6_strike_103 : Cond.fieldLink RX6 103 "GongTideModel" "changes" "I" ∈ wsX6_strike := by decide +kernel
theorem hi_X6_strike_X6 : ∀ w ∈ wsX60, w ∈ wsX6_strike := fun w h => List.mem_cons_of_mem _ (List.mem_append_right _ h)
def rmX6_strike : Room := { frames := 1, cells := 0, slots := 0, locals := 22 }
set_option maxHeartbeats 4000000 in
set_option maxRecDepth 100000 in
theorem con_X6_strike (lau : Launch) (D : va_G) (cI cB : ClassId) (g : Nat) (co : Int) (nh : Nat) (qk : Nat) (qv : Nat) (ns : Nat) (qh : Nat) (ql : Nat) (ch : Int) (hd : Nat) (q9 : Nat) (q10 : Nat) (q11 : Nat) (q12 : Nat) (pl : Nat) (qp : Nat) (iw : Int) (nw : Int) (nz : Int) (th : Nat) (sd : Int64) (qs : Nat) (ik : Int) (kc : Int) (ks : Nat) (kg : Int) (kh : Nat) (k26 : Nat) (k27 : Nat) (k28 : Nat) (k29 : Nat) (k30 : Nat) (k31 : Nat) (k32 : Nat) (hx : Int64) (SH : Nat → Int) (SL : Nat → Int) (x : Int) (l : Int) (hnh : nh ≤ 5) (hn0 : 0 < nh) (hx0 : 0 ≤ x ∧ x ≤ 9) (hl : 1 ≤ l ∧ l ≤ 9) (hns : ns < 6) : jMW (S := Unit) lau yX6_strike wsX6_strike rmX6_strike D cI cB [.ref g, .int (jI x), .int (jI l)] [oM g co ((nh : Nat) : Int) qk qv ((ns : Nat) : Int) qh ql ch ((hd : Nat) : Int) q9 q10 q11 q12 ((pl : Nat) : Int) qp iw nw nz ((th : Nat) : Int) sd qs ik kc ((ks : Nat) : Int) kg ((kh : Nat) : Int) k26 k27 k28 k29 k30 k31 k32 hx, aI cI qh 7 SH, aI cI ql 7 SL] (fun u => some (.int (jI ((ns : Nat) : Int)))) (fun u => True) (fun u => [oM g co ((nh : Nat) : Int) qk qv ((ns + 1 : Nat) : Int) qh ql (ch + 1) ((hd : Nat) : Int) q9 q10 q11 q12 ((pl : Nat) : Int) qp iw nw nz ((th : Nat) : Int) sd qs ik kc ((ks : Nat) : Int) kg ((kh : Nat) : Int) k26 k27 k28 k29 k30 k31 k32 hx, aI cI qh 7 (va_up SH ns x), aI cI ql 7 (va_up SL ns l)]) := by
  refine jMW.of (own := RX6) (cc := cX6_strike) (maxL := 3) (ret := (some .int)) rfl (by decide) rfl (Nat.le_of_ble_eq_true rfl) ?_
  intro X C E
  refine jw_lv (lv' := [(0, .ref g), (1, .int (jI x)), (2, .int (jI l))]) [0, 1, 2] rfl ?_
  refine jw_iload_n (pc := 0) C dX6_strike_0 1 rfl ?_
  refine jw_iconst (pc := 1) C dX6_strike_1 ?_
  refine jw_bipush (pc := 2) C dX6_strike_2 (by decide +kernel) ?_
  refine jw_callRS (pc := 4) C [.int (jI x), .int (jI 0), .int (jI 9)] [] 3 (con_X6_within lau D cI cB x 0 9 (by omega) (by omega) (by omega)) gX6_strike_X6_within rfl rfl rfl (by decide +kernel) ⟨Nat.le_of_ble_eq_true rfl, Nat.le_of_ble_eq_true rfl⟩ [] rfl rfl (Nat.le_of_ble_eq_true rfl) rfl dX6_strike_4 ?_
  refine jw_ifb_eq (pc := 7) (tgt := 20) C dX6_strike_7 (by decide) (fun c_7 => ?_) (fun c_7 => ?_)
  · exfalso; omega
  · -- 7 f
    refine jw_iload_n (pc := 10) C dX6_strike_10 2 rfl ?_
    refine jw_iconst (pc := 11) C dX6_strike_11 ?_
    refine jw_bipush (pc := 12) C dX6_strike_12 (by decide +kernel) ?_
    refine jw_callRS (pc := 14) C [.int (jI l), .int (jI 1), .int (jI 9)] [] 3 (con_X6_within lau D cI cB l 1 9 (by omega) (by omega) (by omega)) gX6_strike_X6_within rfl rfl rfl (by decide +kernel) ⟨Nat.le_of_ble_eq_true rfl, Nat.le_of_ble_eq_true rfl⟩ [] rfl rfl (Nat.le_of_ble_eq_true rfl) rfl dX6_strike_14 ?_
    refine jw_ifb_ne (pc := 17) (tgt := 23) C dX6_strike_17 (by decide) (fun c_17 => ?_) (fun c_17 => ?_)
    · -- 17 t
      refine jw_aload_n (pc := 23) C dX6_strike_23 0 rfl ?_
      refine jw_get (pc := 24) C hi_X6_strike_X6 0 rfl rfl 1 (by decide) fl_X6_strike_94 rfl rfl dX6_strike_24 ?_
      refine jw_if_ne (pc := 27) (tgt := 33) C dX6_strike_27 (by decide) (by omega) (fun c_27 => ?_) (fun c_27 => ?_)
      · -- 27 t
        refine jw_aload_n (pc := 33) C dX6_strike_33 0 rfl ?_
        refine jw_get (pc := 34) C hi_X6_strike_X6 0 rfl rfl 4 (by decide) fl_X6_strike_97 rfl rfl dX6_strike_34 ?_
        refine jw_bipush (pc := 37) C dX6_strike_37 (by decide +kernel) ?_
        refine jw_icmp_ne (pc := 39) (tgt := 45) C dX6_strike_39 (by decide) (by omega) (by omega) (fun c_39 => ?_) (fun c_39 => ?_)
        · -- 39 t
          refine jw_aload_n (pc := 45) C dX6_strike_45 0 rfl ?_
          refine jw_get (pc := 46) C hi_X6_strike_X6 0 rfl rfl 5 (by decide) fl_X6_strike_16 rfl rfl dX6_strike_46 ?_
          refine jw_aload_n (pc := 49) C dX6_strike_49 0 rfl ?_
          refine jw_get (pc := 50) C hi_X6_strike_X6 0 rfl rfl 4 (by decide) fl_X6_strike_97 rfl rfl dX6_strike_50 ?_
          refine jw_iload_n (pc := 53) C dX6_strike_53 1 rfl ?_
          refine jw_iast (pc := 54) C (f := SH) 1 ns rfl rfl (by omega) (by decide) (ws' := [oM g co ((nh : Nat) : Int) qk qv ((ns : Nat) : Int) qh ql ch ((hd : Nat) : Int) q9 q10 q11 q12 ((pl : Nat) : Int) qp iw nw nz ((th : Nat) : Int) sd qs ik kc ((ks : Nat) : Int) kg ((kh : Nat) : Int) k26 k27 k28 k29 k30 k31 k32 hx, aI cI qh 7 (va_up SH ns x), aI cI ql 7 SL]) rfl dX6_strike_54 ?_
          refine jw_aload_n (pc := 55) C dX6_strike_55 0 rfl ?_
          refine jw_get (pc := 56) C hi_X6_strike_X6 0 rfl rfl 6 (by decide) fl_X6_strike_19 rfl rfl dX6_strike_56 ?_
          refine jw_aload_n (pc := 59) C dX6_strike_59 0 rfl ?_
          refine jw_get (pc := 60) C hi_X6_strike_X6 0 rfl rfl 4 (by decide) fl_X6_strike_97 rfl rfl dX6_strike_60 ?_
          refine jw_iload_n (pc := 63) C dX6_strike_63 2 rfl ?_
          refine jw_iast (pc := 64) C (f := SL) 2 ns rfl rfl (by omega) (by decide) (ws' := [oM g co ((nh : Nat) : Int) qk qv ((ns : Nat) : Int) qh ql ch ((hd : Nat) : Int) q9 q10 q11 q12 ((pl : Nat) : Int) qp iw nw nz ((th : Nat) : Int) sd qs ik kc ((ks : Nat) : Int) kg ((kh : Nat) : Int) k26 k27 k28 k29 k30 k31 k32 hx, aI cI qh 7 (va_up SH ns x), aI cI ql 7 (va_up SL ns l)]) rfl dX6_strike_64 ?_
          refine jw_aload_n (pc := 65) C dX6_strike_65 0 rfl ?_
          refine jw_dup (pc := 66) C dX6_strike_66 rfl ?_
          refine jw_get (pc := 67) C hi_X6_strike_X6 0 rfl rfl 4 (by decide) fl_X6_strike_97 rfl rfl dX6_strike_67 ?_
          refine jw_iconst (pc := 70) C dX6_strike_70 ?_
          refine jw_iadd (pc := 71) (z := ((ns + 1 : Nat) : Int)) C dX6_strike_71 (by omega) ?_
          refine jw_put (pc := 72) (ty := .int) (ws' := [oM g co ((nh : Nat) : Int) qk qv ((ns + 1 : Nat) : Int) qh ql ch ((hd : Nat) : Int) q9 q10 q11 q12 ((pl : Nat) : Int) qp iw nw nz ((th : Nat) : Int) sd qs ik kc ((ks : Nat) : Int) kg ((kh : Nat) : Int) k26 k27 k28 k29 k30 k31 k32 hx, aI cI qh 7 (va_up SH ns x), aI cI ql 7 (va_up SL ns l)]) C hi_X6_strike_X6 tyX6 tyX6_ok nmX6 0 rfl rfl 4 (by decide) fl_X6_strike_97 rfl rfl (by decide +kernel) rfl rfl (Nat.le_of_ble_eq_true rfl) rfl dX6_strike_72 ?_
          refine jw_aload_n (pc := 75) C dX6_strike_75 0 rfl ?_
          refine jw_dup (pc := 76) C dX6_strike_76 rfl ?_
          refine jw_get (pc := 77) C hi_X6_strike_X6 0 rfl rfl 7 (by decide) fl_X6_strike_103 rfl rfl dX6_strike_77 ?_
          refine jw_iconst (pc := 80) C dX6_strike_80 ?_
          refine jw_iadd (pc := 81) (z := (ch + 1)) C dX6_strike_81 rfl ?_
          refine jw_put (pc := 82) (ty := .int) (ws' := [oM g co ((nh : Nat) : Int) qk qv ((ns + 1 : Nat) : Int) qh ql (ch + 1) ((hd : Nat) : Int) q9 q10 q11 q12 ((pl : Nat) : Int) qp iw nw nz ((th : Nat) : Int) sd qs ik kc ((ks : Nat) : Int) kg ((kh : Nat) : Int) k26 k27 k28 k29 k30 k31 k32 hx, aI cI qh 7 (va_up SH ns x), aI cI ql 7 (va_up SL ns l)]) C hi_X6_strike_X6 tyX6 tyX6_ok nmX6 0 rfl rfl 7 (by decide) fl_X6_strike_103 rfl rfl (by decide +kernel) rfl rfl (Nat.le_of_ble_eq_true rfl) rfl dX6_strike_82 ?_
          refine jw_aload_n (pc := 85) C dX6_strike_85 0 rfl ?_
          refine jw_get (pc := 86) C hi_X6_strike_X6 0 rfl rfl 4 (by decide) fl_X6_strike_97 rfl rfl dX6_strike_86 ?_
          refine jw_iconst (pc := 89) C dX6_strike_89 ?_
          refine jw_isub (pc := 90) (z := ((ns : Nat) : Int)) C dX6_strike_90 (by omega) ?_
          exact jw_iretW (pc := 91) C E dX6_strike_91 (()) rfl trivial rfl
        · exfalso; omega
      · exfalso; omega
    · exfalso; omega
set_option maxHeartbeats 4000000 in
set_option maxRecDepth 100000 in
theorem con_X6_strikeF (lau : Launch) (D : va_G) (cI cB : ClassId) (g : Nat) (co : Int) (nh : Nat) (qk : Nat) (qv : Nat) (ns : Nat) (qh : Nat) (ql : Nat) (ch : Int) (hd : Nat) (q9 : Nat) (q10 : Nat) (q11 : Nat) (q12 : Nat) (pl : Nat) (qp : Nat) (iw : Int) (nw : Int) (nz : Int) (th : Nat) (sd : Int64) (qs : Nat) (ik : Int) (kc : Int) (ks : Nat) (kg : Int) (kh : Nat) (k26 : Nat) (k27 : Nat) (k28 : Nat) (k29 : Nat) (k30 : Nat) (k31 : Nat) (k32 : Nat) (hx : Int64) (x : Int) (l : Int) (hnh : nh ≤ 5) (hns : ns ≤ 6) (hx0 : -2147483648 ≤ x ∧ x < 2147483648) (hl : -2147483648 ≤ l ∧ l < 2147483648) (hrf : ¬ ((0 ≤ x ∧ x ≤ 9) ∧ (1 ≤ l ∧ l ≤ 9)) ∨ nh = 0 ∨ ns = 6) : jMR lau yX6_strike wsX6_strike rmX6_strike D cI cB [.ref g, .int (jI x), .int (jI l)] [oM g co ((nh : Nat) : Int) qk qv ((ns : Nat) : Int) qh ql ch ((hd : Nat) : Int) q9 q10 q11 q12 ((pl : Nat) : Int) qp iw nw nz ((th : Nat) : Int) sd qs ik kc ((ks : Nat) : Int) kg ((kh : Nat) : Int) k26 k27 k28 k29 k30 k31 k32 hx] (.int (jI (sp_strF nh x l))) := by
  refine jMR.of (own := RX6) (cc := cX6_strike) (maxL := 3) (ret := (some .int)) rfl (by decide) rfl (Nat.le_of_ble_eq_true rfl) ?_
  intro X C E
  refine jw_lv (lv' := [(0, .ref g), (1, .int (jI x)), (2, .int (jI l))]) [0, 1, 2] rfl ?_
  refine jw_iload_n (pc := 0) C dX6_strike_0 1 rfl ?_
  refine jw_iconst (pc := 1) C dX6_strike_1 ?_
  refine jw_bipush (pc := 2) C dX6_strike_2 (by decide +kernel) ?_
  refine jw_callRS (pc := 4) C [.int (jI x), .int (jI 0), .int (jI 9)] [] 3 (con_X6_within lau D cI cB x 0 9 (by omega) (by omega) (by omega)) gX6_strike_X6_within rfl rfl rfl (by decide +kernel) ⟨Nat.le_of_ble_eq_true rfl, Nat.le_of_ble_eq_true rfl⟩ [] rfl rfl (Nat.le_of_ble_eq_true rfl) rfl dX6_strike_4 ?_
  refine jw_ifb_eq (pc := 7) (tgt := 20) C dX6_strike_7 (by decide) (fun c_7 => ?_) (fun c_7 => ?_)
  · -- 7 t
    refine jw_bipush (pc := 20) C dX6_strike_20 (by decide +kernel) ?_
    exact jw_iretR (pc := 22) C E dX6_strike_22 (congrArg jI (by unfold sp_strF; (repeat' split) <;> omega))
  · -- 7 f
    refine jw_iload_n (pc := 10) C dX6_strike_10 2 rfl ?_
    refine jw_iconst (pc := 11) C dX6_strike_11 ?_
    refine jw_bipush (pc := 12) C dX6_strike_12 (by decide +kernel) ?_
    refine jw_callRS (pc := 14) C [.int (jI l), .int (jI 1), .int (jI 9)] [] 3 (con_X6_within lau D cI cB l 1 9 (by omega) (by omega) (by omega)) gX6_strike_X6_within rfl rfl rfl (by decide +kernel) ⟨Nat.le_of_ble_eq_true rfl, Nat.le_of_ble_eq_true rfl⟩ [] rfl rfl (Nat.le_of_ble_eq_true rfl) rfl dX6_strike_14 ?_
    refine jw_ifb_ne (pc := 17) (tgt := 23) C dX6_strike_17 (by decide) (fun c_17 => ?_) (fun c_17 => ?_)
    · -- 17 t
      refine jw_aload_n (pc := 23) C dX6_strike_23 0 rfl ?_
      refine jw_get (pc := 24) C hi_X6_strike_X6 0 rfl rfl 1 (by decide) fl_X6_strike_94 rfl rfl dX6_strike_24 ?_
      refine jw_if_ne (pc := 27) (tgt := 33) C dX6_strike_27 (by decide) (by omega) (fun c_27 => ?_) (fun c_27 => ?_)
      · -- 27 t
        refine jw_aload_n (pc := 33) C dX6_strike_33 0 rfl ?_
        refine jw_get (pc := 34) C hi_X6_strike_X6 0 rfl rfl 4 (by decide) fl_X6_strike_97 rfl rfl dX6_strike_34 ?_
        refine jw_bipush (pc := 37) C dX6_strike_37 (by decide +kernel) ?_
        refine jw_icmp_ne (pc := 39) (tgt := 45) C dX6_strike_39 (by decide) (by omega) (by omega) (fun c_39 => ?_) (fun c_39 => ?_)
        · exfalso; omega
        · -- 39 f
          refine jw_bipush (pc := 42) C dX6_strike_42 (by decide +kernel) ?_
          exact jw_iretR (pc := 44) C E dX6_strike_44 (congrArg jI (by unfold sp_strF; (repeat' split) <;> omega))
      · -- 27 f
        refine jw_bipush (pc := 30) C dX6_strike_30 (by decide +kernel) ?_
        exact jw_iretR (pc := 32) C E dX6_strike_32 (congrArg jI (by unfold sp_strF; (repeat' split) <;> omega))
    · -- 17 f
      refine jw_bipush (pc := 20) C dX6_strike_20 (by decide +kernel) ?_
      exact jw_iretR (pc := 22) C E dX6_strike_22 (congrArg jI (by unfold sp_strF; (repeat' split) <;> omega))
theorem fl_X6_felt_19 : Cond.fieldLink RX6 19 "GongTideModel" "loudOf" "[I" ∈ wsX6_felt := by decide +kernel
theorem fl_X6_felt_103 : Cond.fieldLink RX6 103 "GongTideModel" "changes" "I" ∈ wsX6_felt := by decide +kernel
theorem hi_X6_felt_X6 : ∀ w ∈ wsX60, w ∈ wsX6_felt := fun w h => List.mem_cons_of_mem _ (List.mem_append_right _ h)
def rmX6_felt : Room := { frames := 2, cells := 0, slots := 0, locals := 43 }
set_option maxHeartbeats 4000000 in
set_option maxRecDepth 100000 in
theorem con_X6_felt (lau : Launch) (D : va_G) (cI cB : ClassId) (g : Nat) (co : Int) (nh : Nat) (qk : Nat) (qv : Nat) (ns : Nat) (qh : Nat) (ql : Nat) (ch : Int) (hd : Nat) (q9 : Nat) (q10 : Nat) (q11 : Nat) (q12 : Nat) (pl : Nat) (qp : Nat) (iw : Int) (nw : Int) (nz : Int) (th : Nat) (sd : Int64) (qs : Nat) (ik : Int) (kc : Int) (ks : Nat) (kg : Int) (kh : Nat) (k26 : Nat) (k27 : Nat) (k28 : Nat) (k29 : Nat) (k30 : Nat) (k31 : Nat) (k32 : Nat) (hx : Int64) (SL : Nat → Int) (k : Nat) (l : Int) (hns : ns ≤ 6) (hk : k < ns) (hl : 0 ≤ l ∧ l ≤ 9) : jMW (S := Unit) lau yX6_felt wsX6_felt rmX6_felt D cI cB [.ref g, .int (jI ((k : Nat) : Int)), .int (jI l)] [oM g co ((nh : Nat) : Int) qk qv ((ns : Nat) : Int) qh ql ch ((hd : Nat) : Int) q9 q10 q11 q12 ((pl : Nat) : Int) qp iw nw nz ((th : Nat) : Int) sd qs ik kc ((ks : Nat) : Int) kg ((kh : Nat) : Int) k26 k27 k28 k29 k30 k31 k32 hx, aI cI ql 7 SL] (fun u => some (.int (jI (SL k)))) (fun u => True) (fun u => [oM g co ((nh : Nat) : Int) qk qv ((ns : Nat) : Int) qh ql (ch + 1) ((hd : Nat) : Int) q9 q10 q11 q12 ((pl : Nat) : Int) qp iw nw nz ((th : Nat) : Int) sd qs ik kc ((ks : Nat) : Int) kg ((kh : Nat) : Int) k26 k27 k28 k29 k30 k31 k32 hx, aI cI ql 7 (va_up SL k l)]) := by
  refine jMW.of (own := RX6) (cc := cX6_felt) (maxL := 4) (ret := (some .int)) rfl (by decide) rfl (Nat.le_of_ble_eq_true rfl) ?_
  intro X C E
  refine jw_lv (lv' := [(0, .ref g), (1, .int (jI ((k : Nat) : Int))), (2, .int (jI l))]) [0, 1, 2] rfl ?_
  refine jw_aload_n (pc := 0) C dX6_felt_0 0 rfl ?_
  refine jw_iload_n (pc := 1) C dX6_felt_1 1 rfl ?_
  refine jw_callRV (pc := 2) C [.int (jI ((((k : Nat) : Int))))] [] 1 (con_X6_isStroke lau D cI cB g co nh qk qv ns qh ql ch hd q9 q10 q11 q12 pl qp iw nw nz th sd qs ik kc ks kg kh k26 k27 k28 k29 k30 k31 k32 hx (((k : Nat) : Int)) (by omega) (by omega)) gX6_felt_X6_isStroke rfl rfl rfl (by decide +kernel) ⟨Nat.le_of_ble_eq_true rfl, Nat.le_of_ble_eq_true rfl⟩ 0 rfl rfl [0] rfl rfl (Nat.le_of_ble_eq_true rfl) rfl dX6_felt_2 ?_
  refine jw_ifb_ne (pc := 5) (tgt := 11) C dX6_felt_5 (by decide) (fun c_5 => ?_) (fun c_5 => ?_)
  · -- 5 t
    refine jw_iload_n (pc := 11) C dX6_felt_11 2 rfl ?_
    refine jw_iconst (pc := 12) C dX6_felt_12 ?_
    refine jw_bipush (pc := 13) C dX6_felt_13 (by decide +kernel) ?_
    refine jw_callRS (pc := 15) C [.int (jI l), .int (jI 0), .int (jI 9)] [] 3 (con_X6_within lau D cI cB l 0 9 (by omega) (by omega) (by omega)) gX6_felt_X6_within rfl rfl rfl (by decide +kernel) ⟨Nat.le_of_ble_eq_true rfl, Nat.le_of_ble_eq_true rfl⟩ [] rfl rfl (Nat.le_of_ble_eq_true rfl) rfl dX6_felt_15 ?_
    refine jw_ifb_ne (pc := 18) (tgt := 24) C dX6_felt_18 (by decide) (fun c_18 => ?_) (fun c_18 => ?_)
    · -- 18 t
      refine jw_aload_n (pc := 24) C dX6_felt_24 0 rfl ?_
      refine jw_get (pc := 25) C hi_X6_felt_X6 0 rfl rfl 6 (by decide) fl_X6_felt_19 rfl rfl dX6_felt_25 ?_
      refine jw_iload_n (pc := 28) C dX6_felt_28 1 rfl ?_
      refine jw_iald (pc := 29) C (f := SL) 1 k rfl rfl (by omega) (by decide) dX6_felt_29 ?_
      refine jw_istore_n (pc := 30) (lv' := [(3, .int (jI (SL k))), (0, .ref g), (1, .int (jI ((k : Nat) : Int))), (2, .int (jI l))]) C dX6_felt_30 (by decide) rfl ?_
      refine jw_aload_n (pc := 31) C dX6_felt_31 1 rfl ?_
      refine jw_get (pc := 32) C hi_X6_felt_X6 0 rfl rfl 6 (by decide) fl_X6_felt_19 rfl rfl dX6_felt_32 ?_
      refine jw_iload_n (pc := 35) C dX6_felt_35 2 rfl ?_
      refine jw_iload_n (pc := 36) C dX6_felt_36 3 rfl ?_
      refine jw_iast (pc := 37) C (f := SL) 1 k rfl rfl (by omega) (by decide) (ws' := [oM g co ((nh : Nat) : Int) qk qv ((ns : Nat) : Int) qh ql ch ((hd : Nat) : Int) q9 q10 q11 q12 ((pl : Nat) : Int) qp iw nw nz ((th : Nat) : Int) sd qs ik kc ((ks : Nat) : Int) kg ((kh : Nat) : Int) k26 k27 k28 k29 k30 k31 k32 hx, aI cI ql 7 (va_up SL k l)]) rfl dX6_felt_37 ?_
      refine jw_aload_n (pc := 38) C dX6_felt_38 1 rfl ?_
      refine jw_dup (pc := 39) C dX6_felt_39 rfl ?_
      refine jw_get (pc := 40) C hi_X6_felt_X6 0 rfl rfl 7 (by decide) fl_X6_felt_103 rfl rfl dX6_felt_40 ?_
      refine jw_iconst (pc := 43) C dX6_felt_43 ?_
      refine jw_iadd (pc := 44) (z := (ch + 1)) C dX6_felt_44 rfl ?_
      refine jw_put (pc := 45) (ty := .int) (ws' := [oM g co ((nh : Nat) : Int) qk qv ((ns : Nat) : Int) qh ql (ch + 1) ((hd : Nat) : Int) q9 q10 q11 q12 ((pl : Nat) : Int) qp iw nw nz ((th : Nat) : Int) sd qs ik kc ((ks : Nat) : Int) kg ((kh : Nat) : Int) k26 k27 k28 k29 k30 k31 k32 hx, aI cI ql 7 (va_up SL k l)]) C hi_X6_felt_X6 tyX6 tyX6_ok nmX6 0 rfl rfl 7 (by decide) fl_X6_felt_103 rfl rfl (by decide +kernel) rfl rfl (Nat.le_of_ble_eq_true rfl) rfl dX6_felt_45 ?_
      refine jw_iload_n (pc := 48) C dX6_felt_48 0 rfl ?_
      exact jw_iretW (pc := 49) C E dX6_felt_49 (()) rfl trivial rfl
    · exfalso; omega
  · exfalso; omega
set_option maxHeartbeats 4000000 in
set_option maxRecDepth 100000 in
theorem con_X6_feltF (lau : Launch) (D : va_G) (cI cB : ClassId) (g : Nat) (co : Int) (nh : Nat) (qk : Nat) (qv : Nat) (ns : Nat) (qh : Nat) (ql : Nat) (ch : Int) (hd : Nat) (q9 : Nat) (q10 : Nat) (q11 : Nat) (q12 : Nat) (pl : Nat) (qp : Nat) (iw : Int) (nw : Int) (nz : Int) (th : Nat) (sd : Int64) (qs : Nat) (ik : Int) (kc : Int) (ks : Nat) (kg : Int) (kh : Nat) (k26 : Nat) (k27 : Nat) (k28 : Nat) (k29 : Nat) (k30 : Nat) (k31 : Nat) (k32 : Nat) (hx : Int64) (z : Int) (l : Int) (hns : ns ≤ 6) (hz : -2147483648 ≤ z ∧ z < 2147483648) (hl : -2147483648 ≤ l ∧ l < 2147483648) (hrf : ¬ ((0 ≤ z ∧ z ≤ ((ns : Nat) : Int) - 1) ∧ (0 ≤ l ∧ l ≤ 9))) : jMR lau yX6_felt wsX6_felt rmX6_felt D cI cB [.ref g, .int (jI z), .int (jI l)] [oM g co ((nh : Nat) : Int) qk qv ((ns : Nat) : Int) qh ql ch ((hd : Nat) : Int) q9 q10 q11 q12 ((pl : Nat) : Int) qp iw nw nz ((th : Nat) : Int) sd qs ik kc ((ks : Nat) : Int) kg ((kh : Nat) : Int) k26 k27 k28 k29 k30 k31 k32 hx] (.int (jI (sp_ref ns z))) := by
  refine jMR.of (own := RX6) (cc := cX6_felt) (maxL := 4) (ret := (some .int)) rfl (by decide) rfl (Nat.le_of_ble_eq_true rfl) ?_
  intro X C E
  refine jw_lv (lv' := [(0, .ref g), (1, .int (jI z)), (2, .int (jI l))]) [0, 1, 2] rfl ?_
  refine jw_aload_n (pc := 0) C dX6_felt_0 0 rfl ?_
  refine jw_iload_n (pc := 1) C dX6_felt_1 1 rfl ?_
  refine jw_callRV (pc := 2) C [.int (jI z)] [] 1 (con_X6_isStroke lau D cI cB g co nh qk qv ns qh ql ch hd q9 q10 q11 q12 pl qp iw nw nz th sd qs ik kc ks kg kh k26 k27 k28 k29 k30 k31 k32 hx z (by omega) (by omega)) gX6_felt_X6_isStroke rfl rfl rfl (by decide +kernel) ⟨Nat.le_of_ble_eq_true rfl, Nat.le_of_ble_eq_true rfl⟩ 0 rfl rfl [0] rfl rfl (Nat.le_of_ble_eq_true rfl) rfl dX6_felt_2 ?_
  refine jw_ifb_ne (pc := 5) (tgt := 11) C dX6_felt_5 (by decide) (fun c_5 => ?_) (fun c_5 => ?_)
  · -- 5 t
    refine jw_iload_n (pc := 11) C dX6_felt_11 2 rfl ?_
    refine jw_iconst (pc := 12) C dX6_felt_12 ?_
    refine jw_bipush (pc := 13) C dX6_felt_13 (by decide +kernel) ?_
    refine jw_callRS (pc := 15) C [.int (jI l), .int (jI 0), .int (jI 9)] [] 3 (con_X6_within lau D cI cB l 0 9 (by omega) (by omega) (by omega)) gX6_felt_X6_within rfl rfl rfl (by decide +kernel) ⟨Nat.le_of_ble_eq_true rfl, Nat.le_of_ble_eq_true rfl⟩ [] rfl rfl (Nat.le_of_ble_eq_true rfl) rfl dX6_felt_15 ?_
    refine jw_ifb_ne (pc := 18) (tgt := 24) C dX6_felt_18 (by decide) (fun c_18 => ?_) (fun c_18 => ?_)
    · exfalso; omega
    · -- 18 f
      refine jw_bipush (pc := 21) C dX6_felt_21 (by decide +kernel) ?_
      exact jw_iretR (pc := 23) C E dX6_felt_23 (congrArg jI (by unfold sp_ref; (repeat' split) <;> omega))
  · -- 5 f
    refine jw_bipush (pc := 8) C dX6_felt_8 (by decide +kernel) ?_
    exact jw_iretR (pc := 10) C E dX6_felt_10 (congrArg jI (by unfold sp_ref; (repeat' split) <;> omega))
theorem fl_X6_hear_22 : Cond.fieldLink RX6 22 "GongTideModel" "heardHouse" "[I" ∈ wsX6_hear := by decide +kernel
theorem fl_X6_hear_25 : Cond.fieldLink RX6 25 "GongTideModel" "heardHour" "[I" ∈ wsX6_hear := by decide +kernel
theorem fl_X6_hear_28 : Cond.fieldLink RX6 28 "GongTideModel" "heardLoud" "[I" ∈ wsX6_hear := by decide +kernel
theorem fl_X6_hear_31 : Cond.fieldLink RX6 31 "GongTideModel" "heardHow" "[I" ∈ wsX6_hear := by decide +kernel
theorem fl_X6_hear_106 : Cond.fieldLink RX6 106 "GongTideModel" "heard" "I" ∈ wsX6_hear := by decide +kernel
theorem hi_X6_hear_X6 : ∀ w ∈ wsX60, w ∈ wsX6_hear := fun w h => List.mem_cons_of_mem _ (List.mem_append_right _ h)
def rmX6_hear : Room := { frames := 2, cells := 0, slots := 0, locals := 43 }
set_option maxHeartbeats 4000000 in
set_option maxRecDepth 100000 in
theorem con_X6_hear (lau : Launch) (D : va_G) (cI cB : ClassId) (g : Nat) (co : Int) (nh : Nat) (qk : Nat) (qv : Nat) (ns : Nat) (qh : Nat) (ql : Nat) (ch : Int) (hd : Nat) (q9 : Nat) (q10 : Nat) (q11 : Nat) (q12 : Nat) (pl : Nat) (qp : Nat) (iw : Int) (nw : Int) (nz : Int) (th : Nat) (sd : Int64) (qs : Nat) (ik : Int) (kc : Int) (ks : Nat) (kg : Int) (kh : Nat) (k26 : Nat) (k27 : Nat) (k28 : Nat) (k29 : Nat) (k30 : Nat) (k31 : Nat) (k32 : Nat) (hx : Int64) (HH : Nat → Int) (HO : Nat → Int) (HL : Nat → Int) (HW : Nat → Int) (k : Nat) (x : Int) (l : Int) (w : Int) (hnh : nh ≤ 5) (hk : k < nh) (hx0 : 0 ≤ x ∧ x ≤ 11) (hl : 1 ≤ l ∧ l ≤ 9) (hw : 0 ≤ w ∧ w ≤ 2) (hhd : hd < 6) : jMW (S := Unit) lau yX6_hear wsX6_hear rmX6_hear D cI cB [.ref g, .int (jI ((k : Nat) : Int)), .int (jI x), .int (jI l), .int (jI w)] [oM g co ((nh : Nat) : Int) qk qv ((ns : Nat) : Int) qh ql ch ((hd : Nat) : Int) q9 q10 q11 q12 ((pl : Nat) : Int) qp iw nw nz ((th : Nat) : Int) sd qs ik kc ((ks : Nat) : Int) kg ((kh : Nat) : Int) k26 k27 k28 k29 k30 k31 k32 hx, aI cI q9 6 HH, aI cI q10 6 HO, aI cI q11 6 HL, aI cI q12 6 HW] (fun u => some (.int (jI ((hd + 1 : Nat) : Int)))) (fun u => True) (fun u => [oM g co ((nh : Nat) : Int) qk qv ((ns : Nat) : Int) qh ql ch ((hd + 1 : Nat) : Int) q9 q10 q11 q12 ((pl : Nat) : Int) qp iw nw nz ((th : Nat) : Int) sd qs ik kc ((ks : Nat) : Int) kg ((kh : Nat) : Int) k26 k27 k28 k29 k30 k31 k32 hx, aI cI q9 6 (va_up HH hd ((k : Nat) : Int)), aI cI q10 6 (va_up HO hd x), aI cI q11 6 (va_up HL hd l), aI cI q12 6 (va_up HW hd w)]) := by
  refine jMW.of (own := RX6) (cc := cX6_hear) (maxL := 5) (ret := (some .int)) rfl (by decide) rfl (Nat.le_of_ble_eq_true rfl) ?_
  intro X C E
  refine jw_lv (lv' := [(0, .ref g), (1, .int (jI ((k : Nat) : Int))), (2, .int (jI x)), (3, .int (jI l)), (4, .int (jI w))]) [0, 1, 2, 3, 4] rfl ?_
  refine jw_aload_n (pc := 0) C dX6_hear_0 0 rfl ?_
  refine jw_iload_n (pc := 1) C dX6_hear_1 1 rfl ?_
  refine jw_callRV (pc := 2) C [.int (jI ((((k : Nat) : Int))))] [] 1 (con_X6_isHouse lau D cI cB g co nh qk qv ns qh ql ch hd q9 q10 q11 q12 pl qp iw nw nz th sd qs ik kc ks kg kh k26 k27 k28 k29 k30 k31 k32 hx (((k : Nat) : Int)) (by omega) (by omega)) gX6_hear_X6_isHouse rfl rfl rfl (by decide +kernel) ⟨Nat.le_of_ble_eq_true rfl, Nat.le_of_ble_eq_true rfl⟩ 0 rfl rfl [0] rfl rfl (Nat.le_of_ble_eq_true rfl) rfl dX6_hear_2 ?_
  refine jw_ifb_ne (pc := 5) (tgt := 11) C dX6_hear_5 (by decide) (fun c_5 => ?_) (fun c_5 => ?_)
  · -- 5 t
    refine jw_iload_n (pc := 11) C dX6_hear_11 2 rfl ?_
    refine jw_callRS (pc := 12) C [.int (jI x)] [] 1 (con_X6_isHour lau D cI cB x (by omega)) gX6_hear_X6_isHour rfl rfl rfl (by decide +kernel) ⟨Nat.le_of_ble_eq_true rfl, Nat.le_of_ble_eq_true rfl⟩ [] rfl rfl (Nat.le_of_ble_eq_true rfl) rfl dX6_hear_12 ?_
    refine jw_ifb_eq (pc := 15) (tgt := 38) C dX6_hear_15 (by decide) (fun c_15 => ?_) (fun c_15 => ?_)
    · exfalso; omega
    · -- 15 f
      refine jw_iload_n (pc := 18) C dX6_hear_18 3 rfl ?_
      refine jw_iconst (pc := 19) C dX6_hear_19 ?_
      refine jw_bipush (pc := 20) C dX6_hear_20 (by decide +kernel) ?_
      refine jw_callRS (pc := 22) C [.int (jI l), .int (jI 1), .int (jI 9)] [] 3 (con_X6_within lau D cI cB l 1 9 (by omega) (by omega) (by omega)) gX6_hear_X6_within rfl rfl rfl (by decide +kernel) ⟨Nat.le_of_ble_eq_true rfl, Nat.le_of_ble_eq_true rfl⟩ [] rfl rfl (Nat.le_of_ble_eq_true rfl) rfl dX6_hear_22 ?_
      refine jw_ifb_eq (pc := 25) (tgt := 38) C dX6_hear_25 (by decide) (fun c_25 => ?_) (fun c_25 => ?_)
      · exfalso; omega
      · -- 25 f
        refine jw_iload (pc := 28) C dX6_hear_28 4 rfl ?_
        refine jw_iconst (pc := 30) C dX6_hear_30 ?_
        refine jw_iconst (pc := 31) C dX6_hear_31 ?_
        refine jw_callRS (pc := 32) C [.int (jI w), .int (jI 0), .int (jI 2)] [] 3 (con_X6_within lau D cI cB w 0 2 (by omega) (by omega) (by omega)) gX6_hear_X6_within rfl rfl rfl (by decide +kernel) ⟨Nat.le_of_ble_eq_true rfl, Nat.le_of_ble_eq_true rfl⟩ [] rfl rfl (Nat.le_of_ble_eq_true rfl) rfl dX6_hear_32 ?_
        refine jw_ifb_ne (pc := 35) (tgt := 41) C dX6_hear_35 (by decide) (fun c_35 => ?_) (fun c_35 => ?_)
        · -- 35 t
          refine jw_aload_n (pc := 41) C dX6_hear_41 0 rfl ?_
          refine jw_get (pc := 42) C hi_X6_hear_X6 0 rfl rfl 8 (by decide) fl_X6_hear_106 rfl rfl dX6_hear_42 ?_
          refine jw_bipush (pc := 45) C dX6_hear_45 (by decide +kernel) ?_
          refine jw_icmp_ne (pc := 47) (tgt := 53) C dX6_hear_47 (by decide) (by omega) (by omega) (fun c_47 => ?_) (fun c_47 => ?_)
          · -- 47 t
            refine jw_aload_n (pc := 53) C dX6_hear_53 0 rfl ?_
            refine jw_get (pc := 54) C hi_X6_hear_X6 0 rfl rfl 9 (by decide) fl_X6_hear_22 rfl rfl dX6_hear_54 ?_
            refine jw_aload_n (pc := 57) C dX6_hear_57 0 rfl ?_
            refine jw_get (pc := 58) C hi_X6_hear_X6 0 rfl rfl 8 (by decide) fl_X6_hear_106 rfl rfl dX6_hear_58 ?_
            refine jw_iload_n (pc := 61) C dX6_hear_61 1 rfl ?_
            refine jw_iast (pc := 62) C (f := HH) 1 hd rfl rfl (by omega) (by decide) (ws' := [oM g co ((nh : Nat) : Int) qk qv ((ns : Nat) : Int) qh ql ch ((hd : Nat) : Int) q9 q10 q11 q12 ((pl : Nat) : Int) qp iw nw nz ((th : Nat) : Int) sd qs ik kc ((ks : Nat) : Int) kg ((kh : Nat) : Int) k26 k27 k28 k29 k30 k31 k32 hx, aI cI q9 6 (va_up HH hd ((k : Nat) : Int)), aI cI q10 6 HO, aI cI q11 6 HL, aI cI q12 6 HW]) rfl dX6_hear_62 ?_
            refine jw_aload_n (pc := 63) C dX6_hear_63 0 rfl ?_
            refine jw_get (pc := 64) C hi_X6_hear_X6 0 rfl rfl 10 (by decide) fl_X6_hear_25 rfl rfl dX6_hear_64 ?_
            refine jw_aload_n (pc := 67) C dX6_hear_67 0 rfl ?_
            refine jw_get (pc := 68) C hi_X6_hear_X6 0 rfl rfl 8 (by decide) fl_X6_hear_106 rfl rfl dX6_hear_68 ?_
            refine jw_iload_n (pc := 71) C dX6_hear_71 2 rfl ?_
            refine jw_iast (pc := 72) C (f := HO) 2 hd rfl rfl (by omega) (by decide) (ws' := [oM g co ((nh : Nat) : Int) qk qv ((ns : Nat) : Int) qh ql ch ((hd : Nat) : Int) q9 q10 q11 q12 ((pl : Nat) : Int) qp iw nw nz ((th : Nat) : Int) sd qs ik kc ((ks : Nat) : Int) kg ((kh : Nat) : Int) k26 k27 k28 k29 k30 k31 k32 hx, aI cI q9 6 (va_up HH hd ((k : Nat) : Int)), aI cI q10 6 (va_up HO hd x), aI cI q11 6 HL, aI cI q12 6 HW]) rfl dX6_hear_72 ?_
            refine jw_aload_n (pc := 73) C dX6_hear_73 0 rfl ?_
            refine jw_get (pc := 74) C hi_X6_hear_X6 0 rfl rfl 11 (by decide) fl_X6_hear_28 rfl rfl dX6_hear_74 ?_
            refine jw_aload_n (pc := 77) C dX6_hear_77 0 rfl ?_
            refine jw_get (pc := 78) C hi_X6_hear_X6 0 rfl rfl 8 (by decide) fl_X6_hear_106 rfl rfl dX6_hear_78 ?_
            refine jw_iload_n (pc := 81) C dX6_hear_81 3 rfl ?_
            refine jw_iast (pc := 82) C (f := HL) 3 hd rfl rfl (by omega) (by decide) (ws' := [oM g co ((nh : Nat) : Int) qk qv ((ns : Nat) : Int) qh ql ch ((hd : Nat) : Int) q9 q10 q11 q12 ((pl : Nat) : Int) qp iw nw nz ((th : Nat) : Int) sd qs ik kc ((ks : Nat) : Int) kg ((kh : Nat) : Int) k26 k27 k28 k29 k30 k31 k32 hx, aI cI q9 6 (va_up HH hd ((k : Nat) : Int)), aI cI q10 6 (va_up HO hd x), aI cI q11 6 (va_up HL hd l), aI cI q12 6 HW]) rfl dX6_hear_82 ?_
            refine jw_aload_n (pc := 83) C dX6_hear_83 0 rfl ?_
            refine jw_get (pc := 84) C hi_X6_hear_X6 0 rfl rfl 12 (by decide) fl_X6_hear_31 rfl rfl dX6_hear_84 ?_
            refine jw_aload_n (pc := 87) C dX6_hear_87 0 rfl ?_
            refine jw_get (pc := 88) C hi_X6_hear_X6 0 rfl rfl 8 (by decide) fl_X6_hear_106 rfl rfl dX6_hear_88 ?_
            refine jw_iload (pc := 91) C dX6_hear_91 4 rfl ?_
            refine jw_iast (pc := 93) C (f := HW) 4 hd rfl rfl (by omega) (by decide) (ws' := [oM g co ((nh : Nat) : Int) qk qv ((ns : Nat) : Int) qh ql ch ((hd : Nat) : Int) q9 q10 q11 q12 ((pl : Nat) : Int) qp iw nw nz ((th : Nat) : Int) sd qs ik kc ((ks : Nat) : Int) kg ((kh : Nat) : Int) k26 k27 k28 k29 k30 k31 k32 hx, aI cI q9 6 (va_up HH hd ((k : Nat) : Int)), aI cI q10 6 (va_up HO hd x), aI cI q11 6 (va_up HL hd l), aI cI q12 6 (va_up HW hd w)]) rfl dX6_hear_93 ?_
            refine jw_aload_n (pc := 94) C dX6_hear_94 0 rfl ?_
            refine jw_dup (pc := 95) C dX6_hear_95 rfl ?_
            refine jw_get (pc := 96) C hi_X6_hear_X6 0 rfl rfl 8 (by decide) fl_X6_hear_106 rfl rfl dX6_hear_96 ?_
            refine jw_iconst (pc := 99) C dX6_hear_99 ?_
            refine jw_iadd (pc := 100) (z := ((hd + 1 : Nat) : Int)) C dX6_hear_100 (by omega) ?_
            refine jw_put (pc := 101) (ty := .int) (ws' := [oM g co ((nh : Nat) : Int) qk qv ((ns : Nat) : Int) qh ql ch ((hd + 1 : Nat) : Int) q9 q10 q11 q12 ((pl : Nat) : Int) qp iw nw nz ((th : Nat) : Int) sd qs ik kc ((ks : Nat) : Int) kg ((kh : Nat) : Int) k26 k27 k28 k29 k30 k31 k32 hx, aI cI q9 6 (va_up HH hd ((k : Nat) : Int)), aI cI q10 6 (va_up HO hd x), aI cI q11 6 (va_up HL hd l), aI cI q12 6 (va_up HW hd w)]) C hi_X6_hear_X6 tyX6 tyX6_ok nmX6 0 rfl rfl 8 (by decide) fl_X6_hear_106 rfl rfl (by decide +kernel) rfl rfl (Nat.le_of_ble_eq_true rfl) rfl dX6_hear_101 ?_
            refine jw_aload_n (pc := 104) C dX6_hear_104 0 rfl ?_
            refine jw_get (pc := 105) C hi_X6_hear_X6 0 rfl rfl 8 (by decide) fl_X6_hear_106 rfl rfl dX6_hear_105 ?_
            exact jw_iretW (pc := 108) C E dX6_hear_108 (()) rfl trivial rfl
          · exfalso; omega
        · exfalso; omega
  · exfalso; omega
set_option maxHeartbeats 4000000 in
set_option maxRecDepth 100000 in
theorem con_X6_hearF (lau : Launch) (D : va_G) (cI cB : ClassId) (g : Nat) (co : Int) (nh : Nat) (qk : Nat) (qv : Nat) (ns : Nat) (qh : Nat) (ql : Nat) (ch : Int) (hd : Nat) (q9 : Nat) (q10 : Nat) (q11 : Nat) (q12 : Nat) (pl : Nat) (qp : Nat) (iw : Int) (nw : Int) (nz : Int) (th : Nat) (sd : Int64) (qs : Nat) (ik : Int) (kc : Int) (ks : Nat) (kg : Int) (kh : Nat) (k26 : Nat) (k27 : Nat) (k28 : Nat) (k29 : Nat) (k30 : Nat) (k31 : Nat) (k32 : Nat) (hx : Int64) (z : Int) (x : Int) (l : Int) (w : Int) (hnh : nh ≤ 5) (hhd : hd ≤ 6) (hz : -2147483648 ≤ z ∧ z < 2147483648) (hx0 : -2147483648 ≤ x ∧ x < 2147483648) (hl : -2147483648 ≤ l ∧ l < 2147483648) (hw : -2147483648 ≤ w ∧ w < 2147483648) (hrf : ¬ ((0 ≤ z ∧ z ≤ ((nh : Nat) : Int) - 1) ∧ (0 ≤ x ∧ x ≤ 11) ∧ (1 ≤ l ∧ l ≤ 9) ∧ (0 ≤ w ∧ w ≤ 2)) ∨ hd = 6) : jMR lau yX6_hear wsX6_hear rmX6_hear D cI cB [.ref g, .int (jI z), .int (jI x), .int (jI l), .int (jI w)] [oM g co ((nh : Nat) : Int) qk qv ((ns : Nat) : Int) qh ql ch ((hd : Nat) : Int) q9 q10 q11 q12 ((pl : Nat) : Int) qp iw nw nz ((th : Nat) : Int) sd qs ik kc ((ks : Nat) : Int) kg ((kh : Nat) : Int) k26 k27 k28 k29 k30 k31 k32 hx] (.int (jI (sp_hearF nh z x l w))) := by
  refine jMR.of (own := RX6) (cc := cX6_hear) (maxL := 5) (ret := (some .int)) rfl (by decide) rfl (Nat.le_of_ble_eq_true rfl) ?_
  intro X C E
  refine jw_lv (lv' := [(0, .ref g), (1, .int (jI z)), (2, .int (jI x)), (3, .int (jI l)), (4, .int (jI w))]) [0, 1, 2, 3, 4] rfl ?_
  refine jw_aload_n (pc := 0) C dX6_hear_0 0 rfl ?_
  refine jw_iload_n (pc := 1) C dX6_hear_1 1 rfl ?_
  refine jw_callRV (pc := 2) C [.int (jI z)] [] 1 (con_X6_isHouse lau D cI cB g co nh qk qv ns qh ql ch hd q9 q10 q11 q12 pl qp iw nw nz th sd qs ik kc ks kg kh k26 k27 k28 k29 k30 k31 k32 hx z (by omega) (by omega)) gX6_hear_X6_isHouse rfl rfl rfl (by decide +kernel) ⟨Nat.le_of_ble_eq_true rfl, Nat.le_of_ble_eq_true rfl⟩ 0 rfl rfl [0] rfl rfl (Nat.le_of_ble_eq_true rfl) rfl dX6_hear_2 ?_
  refine jw_ifb_ne (pc := 5) (tgt := 11) C dX6_hear_5 (by decide) (fun c_5 => ?_) (fun c_5 => ?_)
  · -- 5 t
    refine jw_iload_n (pc := 11) C dX6_hear_11 2 rfl ?_
    refine jw_callRS (pc := 12) C [.int (jI x)] [] 1 (con_X6_isHour lau D cI cB x (by omega)) gX6_hear_X6_isHour rfl rfl rfl (by decide +kernel) ⟨Nat.le_of_ble_eq_true rfl, Nat.le_of_ble_eq_true rfl⟩ [] rfl rfl (Nat.le_of_ble_eq_true rfl) rfl dX6_hear_12 ?_
    refine jw_ifb_eq (pc := 15) (tgt := 38) C dX6_hear_15 (by decide) (fun c_15 => ?_) (fun c_15 => ?_)
    · -- 15 t
      refine jw_bipush (pc := 38) C dX6_hear_38 (by decide +kernel) ?_
      exact jw_iretR (pc := 40) C E dX6_hear_40 (congrArg jI (by unfold sp_hearF; (repeat' split) <;> omega))
    · -- 15 f
      refine jw_iload_n (pc := 18) C dX6_hear_18 3 rfl ?_
      refine jw_iconst (pc := 19) C dX6_hear_19 ?_
      refine jw_bipush (pc := 20) C dX6_hear_20 (by decide +kernel) ?_
      refine jw_callRS (pc := 22) C [.int (jI l), .int (jI 1), .int (jI 9)] [] 3 (con_X6_within lau D cI cB l 1 9 (by omega) (by omega) (by omega)) gX6_hear_X6_within rfl rfl rfl (by decide +kernel) ⟨Nat.le_of_ble_eq_true rfl, Nat.le_of_ble_eq_true rfl⟩ [] rfl rfl (Nat.le_of_ble_eq_true rfl) rfl dX6_hear_22 ?_
      refine jw_ifb_eq (pc := 25) (tgt := 38) C dX6_hear_25 (by decide) (fun c_25 => ?_) (fun c_25 => ?_)
      · -- 25 t
        refine jw_bipush (pc := 38) C dX6_hear_38 (by decide +kernel) ?_
        exact jw_iretR (pc := 40) C E dX6_hear_40 (congrArg jI (by unfold sp_hearF; (repeat' split) <;> omega))
      · -- 25 f
        refine jw_iload (pc := 28) C dX6_hear_28 4 rfl ?_
        refine jw_iconst (pc := 30) C dX6_hear_30 ?_
        refine jw_iconst (pc := 31) C dX6_hear_31 ?_
        refine jw_callRS (pc := 32) C [.int (jI w), .int (jI 0), .int (jI 2)] [] 3 (con_X6_within lau D cI cB w 0 2 (by omega) (by omega) (by omega)) gX6_hear_X6_within rfl rfl rfl (by decide +kernel) ⟨Nat.le_of_ble_eq_true rfl, Nat.le_of_ble_eq_true rfl⟩ [] rfl rfl (Nat.le_of_ble_eq_true rfl) rfl dX6_hear_32 ?_
        refine jw_ifb_ne (pc := 35) (tgt := 41) C dX6_hear_35 (by decide) (fun c_35 => ?_) (fun c_35 => ?_)
        · -- 35 t
          refine jw_aload_n (pc := 41) C dX6_hear_41 0 rfl ?_
          refine jw_get (pc := 42) C hi_X6_hear_X6 0 rfl rfl 8 (by decide) fl_X6_hear_106 rfl rfl dX6_hear_42 ?_
          refine jw_bipush (pc := 45) C dX6_hear_45 (by decide +kernel) ?_
          refine jw_icmp_ne (pc := 47) (tgt := 53) C dX6_hear_47 (by decide) (by omega) (by omega) (fun c_47 => ?_) (fun c_47 => ?_)
          · exfalso; omega
          · -- 47 f
            refine jw_bipush (pc := 50) C dX6_hear_50 (by decide +kernel) ?_
            exact jw_iretR (pc := 52) C E dX6_hear_52 (congrArg jI (by unfold sp_hearF; (repeat' split) <;> omega))
        · -- 35 f
          refine jw_bipush (pc := 38) C dX6_hear_38 (by decide +kernel) ?_
          exact jw_iretR (pc := 40) C E dX6_hear_40 (congrArg jI (by unfold sp_hearF; (repeat' split) <;> omega))
  · -- 5 f
    refine jw_bipush (pc := 8) C dX6_hear_8 (by decide +kernel) ?_
    exact jw_iretR (pc := 10) C E dX6_hear_10 (congrArg jI (by unfold sp_hearF; (repeat' split) <;> omega))
theorem fl_X6_forget_106 : Cond.fieldLink RX6 106 "GongTideModel" "heard" "I" ∈ wsX6_forget := by decide +kernel
theorem hi_X6_forget_X6 : ∀ w ∈ wsX60, w ∈ wsX6_forget := fun w h => List.mem_cons_of_mem _ (List.mem_append_right _ h)
def rmX6_forget : Room := { frames := 0, cells := 0, slots := 0, locals := 0 }
set_option maxHeartbeats 4000000 in
set_option maxRecDepth 100000 in
theorem con_X6_forget (lau : Launch) (D : va_G) (cI cB : ClassId) (g : Nat) (co : Int) (nh : Nat) (qk : Nat) (qv : Nat) (ns : Nat) (qh : Nat) (ql : Nat) (ch : Int) (hd : Nat) (q9 : Nat) (q10 : Nat) (q11 : Nat) (q12 : Nat) (pl : Nat) (qp : Nat) (iw : Int) (nw : Int) (nz : Int) (th : Nat) (sd : Int64) (qs : Nat) (ik : Int) (kc : Int) (ks : Nat) (kg : Int) (kh : Nat) (k26 : Nat) (k27 : Nat) (k28 : Nat) (k29 : Nat) (k30 : Nat) (k31 : Nat) (k32 : Nat) (hx : Int64)  : jMW (S := Unit) lau yX6_forget wsX6_forget rmX6_forget D cI cB [.ref g] [oM g co ((nh : Nat) : Int) qk qv ((ns : Nat) : Int) qh ql ch ((hd : Nat) : Int) q9 q10 q11 q12 ((pl : Nat) : Int) qp iw nw nz ((th : Nat) : Int) sd qs ik kc ((ks : Nat) : Int) kg ((kh : Nat) : Int) k26 k27 k28 k29 k30 k31 k32 hx] (fun u => some (.int (jI ((hd : Nat) : Int)))) (fun u => True) (fun u => [oM g co ((nh : Nat) : Int) qk qv ((ns : Nat) : Int) qh ql ch ((0 : Nat) : Int) q9 q10 q11 q12 ((pl : Nat) : Int) qp iw nw nz ((th : Nat) : Int) sd qs ik kc ((ks : Nat) : Int) kg ((kh : Nat) : Int) k26 k27 k28 k29 k30 k31 k32 hx]) := by
  refine jMW.of (own := RX6) (cc := cX6_forget) (maxL := 2) (ret := (some .int)) rfl (by decide) rfl (Nat.le_of_ble_eq_true rfl) ?_
  intro X C E
  refine jw_lv (lv' := [(0, .ref g)]) [0] rfl ?_
  refine jw_aload_n (pc := 0) C dX6_forget_0 0 rfl ?_
  refine jw_get (pc := 1) C hi_X6_forget_X6 0 rfl rfl 8 (by decide) fl_X6_forget_106 rfl rfl dX6_forget_1 ?_
  refine jw_istore_n (pc := 4) (lv' := [(1, .int (jI ((hd : Nat) : Int))), (0, .ref g)]) C dX6_forget_4 (by decide) rfl ?_
  refine jw_aload_n (pc := 5) C dX6_forget_5 1 rfl ?_
  refine jw_iconst (pc := 6) C dX6_forget_6 ?_
  refine jw_put (pc := 7) (ty := .int) (ws' := [oM g co ((nh : Nat) : Int) qk qv ((ns : Nat) : Int) qh ql ch 0 q9 q10 q11 q12 ((pl : Nat) : Int) qp iw nw nz ((th : Nat) : Int) sd qs ik kc ((ks : Nat) : Int) kg ((kh : Nat) : Int) k26 k27 k28 k29 k30 k31 k32 hx]) C hi_X6_forget_X6 tyX6 tyX6_ok nmX6 0 rfl rfl 8 (by decide) fl_X6_forget_106 rfl rfl (by decide +kernel) rfl rfl (Nat.le_of_ble_eq_true rfl) rfl dX6_forget_7 ?_
  refine jw_iload_n (pc := 10) C dX6_forget_10 0 rfl ?_
  exact jw_iretW (pc := 11) C E dX6_forget_11 (()) rfl trivial rfl
