theorem fl_X5_tideNow_23 : Cond.fieldLink RX5 23 "GongTide" "affairs" "LGongTide$Affairs;" ∈ wsX5_tideNow := by decide +kernel
theorem fl_X5_tideNow_33 : Cond.fieldLink RX5 33 "GongTide" "now" "LGongTide$Tide;" ∈ wsX5_tideNow := by decide +kernel
theorem fl_X5_tideNow_86 : Cond.fieldLink RX5 86 "GongTide$Affairs" "strokes" "LGongTide$Strokes;" ∈ wsX5_tideNow := by decide +kernel
theorem hi_X5_tideNow_X0 : ∀ w ∈ wsX00, w ∈ wsX5_tideNow := fun w h => List.mem_cons_of_mem _ (List.mem_append_left _ (List.mem_append_left _ (List.mem_append_right _ h)))
theorem hi_X5_tideNow_X5 : ∀ w ∈ wsX50, w ∈ wsX5_tideNow := fun w h => List.mem_cons_of_mem _ (List.mem_append_left _ (List.mem_append_left _ (List.mem_append_left _ (List.mem_append_right _ h))))
def rmX5_tideNow : Room := { frames := 3, cells := 0, slots := 0, locals := 64 }
set_option maxHeartbeats 4000000 in
set_option maxRecDepth 100000 in
theorem con_X5_tideNow (lau : Launch) (D : va_G) (cI cB : ClassId) (g : Nat) (pg : Nat) (ki : Nat) (nh : Nat) (rd : Int) (a : Nat) (kp : Nat) (ik : Int) (no : Nat) (su : Nat) (le : Nat) (s : Nat) (h : Nat) (ch : Int) (hr : Nat) (lo : Nat) (n : Nat) (SH : Nat → Int) (SL : Nat → Int) (qn : Nat) (f : Nat → Int) (h2 : n ≤ 6) (hS : ∀ x, x < n → 0 ≤ SH x ∧ SH x ≤ 9 ∧ 0 ≤ SL x ∧ SL x ≤ 9) : jMW (S := Unit) lau yX5_tideNow wsX5_tideNow rmX5_tideNow D cI cB [.ref g] [oG g pg ki ((nh : Nat) : Int) rd a kp ik no su, oA a le s h ch, oS s hr lo ((n : Nat) : Int), aI cI hr 6 SH, aI cI lo 6 SL, oT no qn, aI cI qn 12 f] (fun u => some (.ref no)) (fun u => True) (fun u => [oG g pg ki ((nh : Nat) : Int) rd a kp ik no su, oA a le s h ch, oS s hr lo ((n : Nat) : Int), aI cI hr 6 SH, aI cI lo 6 SL, oT no qn, aI cI qn 12 (sp_sum SH SL n)]) := by
  refine jMW.of (own := RX5) (cc := cX5_tideNow) (maxL := 3) (ret := (some (.object "GongTide$Tide"))) rfl (by decide) rfl (Nat.le_of_ble_eq_true rfl) ?_
  intro X C E
  refine jw_lv (lv' := [(0, .ref g)]) [0] rfl ?_
  refine jw_aload_n (pc := 0) C dX5_tideNow_0 0 rfl ?_
  refine jw_get (pc := 1) C hi_X5_tideNow_X5 0 rfl rfl 7 (by decide) fl_X5_tideNow_33 rfl rfl dX5_tideNow_1 ?_
  refine jw_callWV (pc := 4) C [] [] 0 (con_X4_clear lau D cI cB no qn f ) gX5_tideNow_X4_clear rfl rfl rfl (by decide +kernel) ⟨Nat.le_of_ble_eq_true rfl, Nat.le_of_ble_eq_true rfl⟩ 5 rfl rfl [5, 6] [0, 1, 2, 3, 4] [0, 1, 2, 3, 4, 5, 6] (wr := [oG g pg ki ((nh : Nat) : Int) rd a kp ik no su, oA a le s h ch, oS s hr lo ((n : Nat) : Int), aI cI hr 6 SH, aI cI lo 6 SL]) rfl rfl (by decide) (by decide) (fun _ => rfl) (wN := fun u_4_1 => [oG g pg ki ((nh : Nat) : Int) rd a kp ik no su, oA a le s h ch, oS s hr lo ((n : Nat) : Int), aI cI hr 6 SH, aI cI lo 6 SL, oT no qn, aI cI qn 12 sp_zero]) (fun _ => rfl) (stN := fun u_4_1 => []) (fun _ => rfl) rfl (Nat.le_of_ble_eq_true rfl) rfl dX5_tideNow_4 (fun u_4_1 hu_4_1 => ?_)
  refine jw_aload_n (pc := 7) C dX5_tideNow_7 0 rfl ?_
  refine jw_get (pc := 8) C hi_X5_tideNow_X5 0 rfl rfl 4 (by decide) fl_X5_tideNow_23 rfl rfl dX5_tideNow_8 ?_
  refine jw_get (pc := 11) C hi_X5_tideNow_X0 1 rfl rfl 1 (by decide) fl_X5_tideNow_86 rfl rfl dX5_tideNow_11 ?_
  refine jw_astore_n (pc := 14) (lv' := [(1, .ref s), (0, .ref g)]) C dX5_tideNow_14 (by decide) rfl ?_
  refine jw_iconst (pc := 15) C dX5_tideNow_15 ?_
  refine jw_istore_n (pc := 16) (lv' := [(2, .int (jI 0)), (1, .ref s), (0, .ref g)]) C dX5_tideNow_16 (by decide) rfl ?_
  have lp_17_2 : ∀ (fu : Nat) (i : Nat), (i ≤ n) → n - i < fu → jW X 17 [(0, .ref g), (1, .ref s), (2, .int (jI ((i : Nat) : Int)))] [] [oG g pg ki ((nh : Nat) : Int) rd a kp ik no su, oA a le s h ch, oS s hr lo ((n : Nat) : Int), aI cI hr 6 SH, aI cI lo 6 SL, oT no qn, aI cI qn 12 (sp_sum SH SL i)] := by
    intro fu
    induction fu with
    | zero => intro i hi hm; exact absurd hm (Nat.not_lt_zero _)
    | succ fu ih_3 =>
      intro i hi hm
      refine jw_iload_n (pc := 17) C dX5_tideNow_17 2 rfl ?_
      refine jw_aload_n (pc := 18) C dX5_tideNow_18 1 rfl ?_
      refine jw_callRV (pc := 19) C [] [.int (jI ((i : Nat) : Int))] 0 (con_X3_size lau D cI cB s hr lo n ) gX5_tideNow_X3_size rfl rfl rfl (by decide +kernel) ⟨Nat.le_of_ble_eq_true rfl, Nat.le_of_ble_eq_true rfl⟩ 2 rfl rfl [2] rfl rfl (Nat.le_of_ble_eq_true rfl) rfl dX5_tideNow_19 ?_
      refine jw_icmp_ge (pc := 22) (tgt := 48) C dX5_tideNow_22 (by decide) (by omega) (by omega) (fun c_22 => ?_) (fun c_22 => ?_)
      · -- 22 t
        refine jw_aload_n (pc := 48) C dX5_tideNow_48 0 rfl ?_
        refine jw_get (pc := 49) C hi_X5_tideNow_X5 0 rfl rfl 7 (by decide) fl_X5_tideNow_33 rfl rfl dX5_tideNow_49 ?_
        exact jw_aretW (pc := 52) C E dX5_tideNow_52 (()) rfl trivial (by rw [show i = n by omega])
      · -- 22 f
        refine jw_aload_n (pc := 25) C dX5_tideNow_25 0 rfl ?_
        refine jw_get (pc := 26) C hi_X5_tideNow_X5 0 rfl rfl 7 (by decide) fl_X5_tideNow_33 rfl rfl dX5_tideNow_26 ?_
        refine jw_aload_n (pc := 29) C dX5_tideNow_29 1 rfl ?_
        refine jw_iload_n (pc := 30) C dX5_tideNow_30 2 rfl ?_
        refine jw_callRV (pc := 31) C [.int (jI ((i : Nat) : Int))] [.ref no] 1 (con_X3_hour lau D cI cB s hr lo n SH SL i (by omega) (by omega)) gX5_tideNow_X3_hour rfl rfl rfl (by decide +kernel) ⟨Nat.le_of_ble_eq_true rfl, Nat.le_of_ble_eq_true rfl⟩ 2 rfl rfl [2, 3, 4] rfl rfl (Nat.le_of_ble_eq_true rfl) rfl dX5_tideNow_31 ?_
        have hs_i := hS i (by omega)
        refine jw_aload_n (pc := 34) C dX5_tideNow_34 1 rfl ?_
        refine jw_iload_n (pc := 35) C dX5_tideNow_35 2 rfl ?_
        refine jw_callRV (pc := 36) C [.int (jI ((i : Nat) : Int))] [.int (jI (SH i)), .ref no] 1 (con_X3_loud lau D cI cB s hr lo n SH SL i (by omega) (by omega)) gX5_tideNow_X3_loud rfl rfl rfl (by decide +kernel) ⟨Nat.le_of_ble_eq_true rfl, Nat.le_of_ble_eq_true rfl⟩ 2 rfl rfl [2, 3, 4] rfl rfl (Nat.le_of_ble_eq_true rfl) rfl dX5_tideNow_36 ?_
        refine jw_callWV (pc := 39) C [.int (jI (((SH i)))), .int (jI (((SL i))))] [] 2 (con_X4_add lau D cI cB no qn (sp_sum SH SL i) ((SH i)) ((SL i)) (by omega) (by omega)) gX5_tideNow_X4_add rfl rfl rfl (by decide +kernel) ⟨Nat.le_of_ble_eq_true rfl, Nat.le_of_ble_eq_true rfl⟩ 5 rfl rfl [5, 6] [0, 1, 2, 3, 4] [0, 1, 2, 3, 4, 5, 6] (wr := [oG g pg ki ((nh : Nat) : Int) rd a kp ik no su, oA a le s h ch, oS s hr lo ((n : Nat) : Int), aI cI hr 6 SH, aI cI lo 6 SL]) rfl rfl (by decide) (by decide) (fun _ => rfl) (wN := fun u_39_4 => [oG g pg ki ((nh : Nat) : Int) rd a kp ik no su, oA a le s h ch, oS s hr lo ((n : Nat) : Int), aI cI hr 6 SH, aI cI lo 6 SL, oT no qn, aI cI qn 12 (sp_add (sp_sum SH SL i) ((SH i)) ((SL i)))]) (fun _ => rfl) (stN := fun u_39_4 => []) (fun _ => rfl) rfl (Nat.le_of_ble_eq_true rfl) rfl dX5_tideNow_39 (fun u_39_4 hu_39_4 => ?_)
        refine jw_iinc (pc := 42) (z := ((i + 1 : Nat) : Int)) (lv' := [(2, .int (jI ((i + 1 : Nat) : Int))), (0, .ref g), (1, .ref s)]) C dX5_tideNow_42 2 rfl (by omega) (by decide) rfl ?_
        refine jw_goto (pc := 45) (tgt := 17) C dX5_tideNow_45 (by decide) ?_
        refine jw_lv [1, 2, 0] rfl ?_
        exact ih_3 (i + 1) (by omega) (by omega)
  refine jw_lv [2, 1, 0] rfl ?_
  exact lp_17_2 ((n - 0) + 1) 0 (by omega) (Nat.lt_succ_self _)
theorem fl_X5_suppose_37 : Cond.fieldLink RX5 37 "GongTide" "supposed" "LGongTide$Tide;" ∈ wsX5_suppose := by decide +kernel
theorem hi_X5_suppose_X5 : ∀ w ∈ wsX50, w ∈ wsX5_suppose := fun w h => List.mem_cons_of_mem _ (List.mem_append_left _ (List.mem_append_right _ h))
def rmX5_suppose : Room := { frames := 2, cells := 0, slots := 0, locals := 45 }
set_option maxHeartbeats 4000000 in
set_option maxRecDepth 100000 in
theorem con_X5_suppose (lau : Launch) (D : va_G) (cI cB : ClassId) (g : Nat) (pg : Nat) (ki : Nat) (nh : Nat) (rd : Int) (a : Nat) (kp : Nat) (ik : Int) (no : Nat) (su : Nat) (t : Nat) (q : Nat) (f : Nat → Int) (qs : Nat) (g0 : Nat → Int) (x : Int) (l : Int) (hx : 0 ≤ x ∧ x ≤ 9) (hl : 0 ≤ l ∧ l ≤ 9) : jMW (S := Unit) lau yX5_suppose wsX5_suppose rmX5_suppose D cI cB [.ref g, .ref t, .int (jI x), .int (jI l)] [oG g pg ki ((nh : Nat) : Int) rd a kp ik no su, oT t q, aI cI q 12 f, oT su qs, aI cI qs 12 g0] (fun u => some (.ref su)) (fun u => True) (fun u => [oG g pg ki ((nh : Nat) : Int) rd a kp ik no su, oT t q, aI cI q 12 f, oT su qs, aI cI qs 12 (sp_add f x l)]) := by
  refine jMW.of (own := RX5) (cc := cX5_suppose) (maxL := 4) (ret := (some (.object "GongTide$Tide"))) rfl (by decide) rfl (Nat.le_of_ble_eq_true rfl) ?_
  intro X C E
  refine jw_lv (lv' := [(0, .ref g), (1, .ref t), (2, .int (jI x)), (3, .int (jI l))]) [0, 1, 2, 3] rfl ?_
  refine jw_aload_n (pc := 0) C dX5_suppose_0 0 rfl ?_
  refine jw_get (pc := 1) C hi_X5_suppose_X5 0 rfl rfl 8 (by decide) fl_X5_suppose_37 rfl rfl dX5_suppose_1 ?_
  refine jw_aload_n (pc := 4) C dX5_suppose_4 1 rfl ?_
  refine jw_callWV (pc := 5) C [.ref t] [] 1 (con_X4_copyFrom lau D cI cB su qs g0 t q f ) gX5_suppose_X4_copyFrom rfl rfl rfl (by decide +kernel) ⟨Nat.le_of_ble_eq_true rfl, Nat.le_of_ble_eq_true rfl⟩ 3 rfl rfl [3, 4, 1, 2] [0] [0, 3, 4, 1, 2] (wr := [oG g pg ki ((nh : Nat) : Int) rd a kp ik no su]) rfl rfl (by decide) (by decide) (fun _ => rfl) (wN := fun u_5_1 => [oG g pg ki ((nh : Nat) : Int) rd a kp ik no su, oT t q, aI cI q 12 f, oT su qs, aI cI qs 12 f]) (fun _ => rfl) (stN := fun u_5_1 => []) (fun _ => rfl) rfl (Nat.le_of_ble_eq_true rfl) rfl dX5_suppose_5 (fun u_5_1 hu_5_1 => ?_)
  refine jw_aload_n (pc := 8) C dX5_suppose_8 0 rfl ?_
  refine jw_get (pc := 9) C hi_X5_suppose_X5 0 rfl rfl 8 (by decide) fl_X5_suppose_37 rfl rfl dX5_suppose_9 ?_
  refine jw_iload_n (pc := 12) C dX5_suppose_12 2 rfl ?_
  refine jw_iload_n (pc := 13) C dX5_suppose_13 3 rfl ?_
  refine jw_callWV (pc := 14) C [.int (jI x), .int (jI l)] [] 2 (con_X4_add lau D cI cB su qs f x l (by omega) (by omega)) gX5_suppose_X4_add rfl rfl rfl (by decide +kernel) ⟨Nat.le_of_ble_eq_true rfl, Nat.le_of_ble_eq_true rfl⟩ 3 rfl rfl [3, 4] [0, 1, 2] [0, 1, 2, 3, 4] (wr := [oG g pg ki ((nh : Nat) : Int) rd a kp ik no su, oT t q, aI cI q 12 f]) rfl rfl (by decide) (by decide) (fun _ => rfl) (wN := fun u_14_2 => [oG g pg ki ((nh : Nat) : Int) rd a kp ik no su, oT t q, aI cI q 12 f, oT su qs, aI cI qs 12 (sp_add f x l)]) (fun _ => rfl) (stN := fun u_14_2 => []) (fun _ => rfl) rfl (Nat.le_of_ble_eq_true rfl) rfl dX5_suppose_14 (fun u_14_2 hu_14_2 => ?_)
  refine jw_aload_n (pc := 17) C dX5_suppose_17 0 rfl ?_
  refine jw_get (pc := 18) C hi_X5_suppose_X5 0 rfl rfl 8 (by decide) fl_X5_suppose_37 rfl rfl dX5_suppose_18 ?_
  exact jw_aretW (pc := 21) C E dX5_suppose_21 (()) rfl trivial rfl
theorem fl_X5_drawDay_23 : Cond.fieldLink RX5 23 "GongTide" "affairs" "LGongTide$Affairs;" ∈ wsX5_drawDay := by decide +kernel
theorem fl_X5_drawDay_37 : Cond.fieldLink RX5 37 "GongTide" "supposed" "LGongTide$Tide;" ∈ wsX5_drawDay := by decide +kernel
theorem fl_X5_drawDay_86 : Cond.fieldLink RX5 86 "GongTide$Affairs" "strokes" "LGongTide$Strokes;" ∈ wsX5_drawDay := by decide +kernel
theorem hi_X5_drawDay_X0 : ∀ w ∈ wsX00, w ∈ wsX5_drawDay := fun w h => List.mem_cons_of_mem _ (List.mem_append_left _ (List.mem_append_left _ (List.mem_append_right _ h)))
theorem hi_X5_drawDay_X5 : ∀ w ∈ wsX50, w ∈ wsX5_drawDay := fun w h => List.mem_cons_of_mem _ (List.mem_append_left _ (List.mem_append_left _ (List.mem_append_left _ (List.mem_append_right _ h))))
theorem cn_X5_drawDay_253 : Cond.constant RX5 253 (65536) ∈ wsX5_drawDay := by decide +kernel
theorem cn_X5_drawDay_247 : Cond.constantLong RX5 247 (1103515245) ∈ wsX5_drawDay := by decide +kernel
theorem cn_X5_drawDay_249 : Cond.constantLong RX5 249 (12345) ∈ wsX5_drawDay := by decide +kernel
theorem cn_X5_drawDay_251 : Cond.constantLong RX5 251 (2147483648) ∈ wsX5_drawDay := by decide +kernel
def rmX5_drawDay : Room := { frames := 3, cells := 0, slots := 0, locals := 64 }
set_option maxHeartbeats 4000000 in
set_option maxRecDepth 100000 in
theorem con_X5_drawDay (lau : Launch) (D : va_G) (cI cB : ClassId) (g : Nat) (pg : Nat) (ki : Nat) (nh : Nat) (rd : Int) (a : Nat) (kp : Nat) (ik : Int) (no : Nat) (su : Nat) (le : Nat) (s : Nat) (h : Nat) (ch : Int) (hr : Nat) (lo : Nat) (n : Nat) (SH : Nat → Int) (SL : Nat → Int) (qs : Nat) (g0 : Nat → Int) (sd : Int) (h2 : n ≤ 6) (hS : ∀ x, x < n → 0 ≤ SH x ∧ SH x ≤ 9 ∧ 0 ≤ SL x ∧ SL x ≤ 9) (hs : 0 ≤ sd ∧ sd < 2147483648) : jMW (S := Unit) lau yX5_drawDay wsX5_drawDay rmX5_drawDay D cI cB [.ref g, .int (jI sd)] [oG g pg ki ((nh : Nat) : Int) rd a kp ik no su, oA a le s h ch, oS s hr lo ((n : Nat) : Int), aI cI hr 6 SH, aI cI lo 6 SL, oT su qs, aI cI qs 12 g0] (fun u => some (.int (jI (sp_sd sd n)))) (fun u => True) (fun u => [oG g pg ki ((nh : Nat) : Int) rd a kp ik no su, oA a le s h ch, oS s hr lo ((n : Nat) : Int), aI cI hr 6 SH, aI cI lo 6 SL, oT su qs, aI cI qs 12 (sp_sum (sp_dr sd) SL n)]) := by
  refine jMW.of (own := RX5) (cc := cX5_drawDay) (maxL := 5) (ret := (some .int)) rfl (by decide) rfl (Nat.le_of_ble_eq_true rfl) ?_
  intro X C E
  refine jw_lv (lv' := [(0, .ref g), (1, .int (jI sd))]) [0, 1] rfl ?_
  refine jw_iload_n (pc := 0) C dX5_drawDay_0 1 rfl ?_
  refine jw_istore_n (pc := 1) (lv' := [(2, .int (jI sd)), (0, .ref g), (1, .int (jI sd))]) C dX5_drawDay_1 (by decide) rfl ?_
  refine jw_aload_n (pc := 2) C dX5_drawDay_2 1 rfl ?_
  refine jw_get (pc := 3) C hi_X5_drawDay_X5 0 rfl rfl 4 (by decide) fl_X5_drawDay_23 rfl rfl dX5_drawDay_3 ?_
  refine jw_get (pc := 6) C hi_X5_drawDay_X0 1 rfl rfl 1 (by decide) fl_X5_drawDay_86 rfl rfl dX5_drawDay_6 ?_
  refine jw_astore_n (pc := 9) (lv' := [(3, .ref s), (2, .int (jI sd)), (0, .ref g), (1, .int (jI sd))]) C dX5_drawDay_9 (by decide) rfl ?_
  refine jw_aload_n (pc := 10) C dX5_drawDay_10 2 rfl ?_
  refine jw_get (pc := 11) C hi_X5_drawDay_X5 0 rfl rfl 8 (by decide) fl_X5_drawDay_37 rfl rfl dX5_drawDay_11 ?_
  refine jw_callWV (pc := 14) C [] [] 0 (con_X4_clear lau D cI cB su qs g0 ) gX5_drawDay_X4_clear rfl rfl rfl (by decide +kernel) ⟨Nat.le_of_ble_eq_true rfl, Nat.le_of_ble_eq_true rfl⟩ 5 rfl rfl [5, 6] [0, 1, 2, 3, 4] [0, 1, 2, 3, 4, 5, 6] (wr := [oG g pg ki ((nh : Nat) : Int) rd a kp ik no su, oA a le s h ch, oS s hr lo ((n : Nat) : Int), aI cI hr 6 SH, aI cI lo 6 SL]) rfl rfl (by decide) (by decide) (fun _ => rfl) (wN := fun u_14_1 => [oG g pg ki ((nh : Nat) : Int) rd a kp ik no su, oA a le s h ch, oS s hr lo ((n : Nat) : Int), aI cI hr 6 SH, aI cI lo 6 SL, oT su qs, aI cI qs 12 sp_zero]) (fun _ => rfl) (stN := fun u_14_1 => []) (fun _ => rfl) rfl (Nat.le_of_ble_eq_true rfl) rfl dX5_drawDay_14 (fun u_14_1 hu_14_1 => ?_)
  refine jw_iconst (pc := 17) C dX5_drawDay_17 ?_
  refine jw_istore (pc := 18) (lv' := [(4, .int (jI 0)), (3, .ref s), (2, .int (jI sd)), (0, .ref g), (1, .int (jI sd))]) C dX5_drawDay_18 (by decide) rfl ?_
  have lp_20_2 : ∀ (fu : Nat) (i : Nat), (i ≤ n) → n - i < fu → jW X 20 [(0, .ref g), (1, .int (jI sd)), (2, .int (jI (sp_sd sd i))), (3, .ref s), (4, .int (jI ((i : Nat) : Int)))] [] [oG g pg ki ((nh : Nat) : Int) rd a kp ik no su, oA a le s h ch, oS s hr lo ((n : Nat) : Int), aI cI hr 6 SH, aI cI lo 6 SL, oT su qs, aI cI qs 12 (sp_sum (sp_dr sd) SL i)] := by
    intro fu
    induction fu with
    | zero => intro i hi hm; exact absurd hm (Nat.not_lt_zero _)
    | succ fu ih_3 =>
      intro i hi hm
      refine jw_iload (pc := 20) C dX5_drawDay_20 4 rfl ?_
      refine jw_aload_n (pc := 22) C dX5_drawDay_22 3 rfl ?_
      refine jw_callRV (pc := 23) C [] [.int (jI ((i : Nat) : Int))] 0 (con_X3_size lau D cI cB s hr lo n ) gX5_drawDay_X3_size rfl rfl rfl (by decide +kernel) ⟨Nat.le_of_ble_eq_true rfl, Nat.le_of_ble_eq_true rfl⟩ 2 rfl rfl [2] rfl rfl (Nat.le_of_ble_eq_true rfl) rfl dX5_drawDay_23 ?_
      refine jw_icmp_ge (pc := 26) (tgt := 71) C dX5_drawDay_26 (by decide) (by omega) (by omega) (fun c_26 => ?_) (fun c_26 => ?_)
      · -- 26 t
        refine jw_iload_n (pc := 71) C dX5_drawDay_71 2 rfl ?_
        exact jw_iretW (pc := 72) C E dX5_drawDay_72 (()) (by rw [show i = n by omega]) trivial (by rw [show i = n by omega])
      · -- 26 f
        have hsd := sp_sd_b hs i
        have hsd1 := sp_sd_b hs (i + 1)
        have hdr := sp_dr_b sd i
        have hs_i := hS i (by omega)
        refine jw_ldc2 (pc := 29) C dX5_drawDay_29 cn_X5_drawDay_247 ?_
        refine jw_iload_n (pc := 32) C dX5_drawDay_32 2 rfl ?_
        refine jw_i2l (pc := 33) C (jL (sp_sd sd i)) dX5_drawDay_33 (jL_i (by omega)) ?_
        refine jw_lmul (pc := 34) C (jL (1103515245 * sp_sd sd i)) dX5_drawDay_34 (by rw [show (1103515245 : Int64) = jL 1103515245 by decide +kernel, jL_mul]) ?_
        refine jw_ldc2 (pc := 35) C dX5_drawDay_35 cn_X5_drawDay_249 ?_
        refine jw_ladd (pc := 38) C (jL (1103515245 * sp_sd sd i + 12345)) dX5_drawDay_38 (by rw [show (12345 : Int64) = jL 12345 by decide +kernel, jL_add]) ?_
        refine jw_ldc2 (pc := 39) C dX5_drawDay_39 cn_X5_drawDay_251 ?_
        refine jw_lrem (pc := 42) C (jL (sp_nx (sp_sd sd i))) dX5_drawDay_42 (by decide +kernel) (by rw [show (2147483648 : Int64) = jL 2147483648 by decide +kernel]; exact jL_rem (by omega) (by omega)) ?_
        refine jw_l2i (pc := 43) C (jI (sp_sd sd (i + 1))) dX5_drawDay_43 (jL_32 _) ?_
        refine jw_istore_n (pc := 44) (lv' := [(2, .int (jI (sp_sd sd (i + 1)))), (0, .ref g), (1, .int (jI sd)), (3, .ref s), (4, .int (jI ((i : Nat) : Int)))]) C dX5_drawDay_44 (by decide) rfl ?_
        refine jw_aload_n (pc := 45) C dX5_drawDay_45 1 rfl ?_
        refine jw_get (pc := 46) C hi_X5_drawDay_X5 0 rfl rfl 8 (by decide) fl_X5_drawDay_37 rfl rfl dX5_drawDay_46 ?_
        refine jw_iload_n (pc := 49) C dX5_drawDay_49 0 rfl ?_
        refine jw_ldc (z := 65536) (pc := 50) C dX5_drawDay_50 cn_X5_drawDay_253 (by decide +kernel) ?_
        refine jw_idiv (pc := 52) C (jI (sp_sd sd (i + 1) / 65536)) dX5_drawDay_52 (jI_ne0 (by omega)) (jI_div (by omega) (by omega)) ?_
        refine jw_bipush (pc := 53) C dX5_drawDay_53 (by decide +kernel) ?_
        refine jw_irem (pc := 55) C (jI (sp_dr sd i)) dX5_drawDay_55 (jI_ne0 (by omega)) (jI_rem (by omega) (by omega)) ?_
        refine jw_aload_n (pc := 56) C dX5_drawDay_56 3 rfl ?_
        refine jw_iload (pc := 57) C dX5_drawDay_57 4 rfl ?_
        refine jw_callRV (pc := 59) C [.int (jI ((i : Nat) : Int))] [.int (jI (sp_dr sd i)), .ref su] 1 (con_X3_loud lau D cI cB s hr lo n SH SL i (by omega) (by omega)) gX5_drawDay_X3_loud rfl rfl rfl (by decide +kernel) ⟨Nat.le_of_ble_eq_true rfl, Nat.le_of_ble_eq_true rfl⟩ 2 rfl rfl [2, 3, 4] rfl rfl (Nat.le_of_ble_eq_true rfl) rfl dX5_drawDay_59 ?_
        refine jw_callWV (pc := 62) C [.int (jI (((sp_dr sd i)))), .int (jI (((SL i))))] [] 2 (con_X4_add lau D cI cB su qs (sp_sum (sp_dr sd) SL i) ((sp_dr sd i)) ((SL i)) (by omega) (by omega)) gX5_drawDay_X4_add rfl rfl rfl (by decide +kernel) ⟨Nat.le_of_ble_eq_true rfl, Nat.le_of_ble_eq_true rfl⟩ 5 rfl rfl [5, 6] [0, 1, 2, 3, 4] [0, 1, 2, 3, 4, 5, 6] (wr := [oG g pg ki ((nh : Nat) : Int) rd a kp ik no su, oA a le s h ch, oS s hr lo ((n : Nat) : Int), aI cI hr 6 SH, aI cI lo 6 SL]) rfl rfl (by decide) (by decide) (fun _ => rfl) (wN := fun u_62_4 => [oG g pg ki ((nh : Nat) : Int) rd a kp ik no su, oA a le s h ch, oS s hr lo ((n : Nat) : Int), aI cI hr 6 SH, aI cI lo 6 SL, oT su qs, aI cI qs 12 (sp_add (sp_sum (sp_dr sd) SL i) ((sp_dr sd i)) ((SL i)))]) (fun _ => rfl) (stN := fun u_62_4 => []) (fun _ => rfl) rfl (Nat.le_of_ble_eq_true rfl) rfl dX5_drawDay_62 (fun u_62_4 hu_62_4 => ?_)
        refine jw_iinc (pc := 65) (z := ((i + 1 : Nat) : Int)) (lv' := [(4, .int (jI ((i + 1 : Nat) : Int))), (2, .int (jI (sp_sd sd (i + 1)))), (0, .ref g), (1, .int (jI sd)), (3, .ref s)]) C dX5_drawDay_65 4 rfl (by omega) (by decide) rfl ?_
        refine jw_goto (pc := 68) (tgt := 20) C dX5_drawDay_68 (by decide) ?_
        refine jw_lv [2, 3, 1, 4, 0] rfl ?_
        exact ih_3 (i + 1) (by omega) (by omega)
  refine jw_lv [3, 4, 2, 1, 0] rfl ?_
  exact lp_20_2 ((n - 0) + 1) 0 (by omega) (Nat.lt_succ_self _)
theorem fl_X5_agreesWithHeard_23 : Cond.fieldLink RX5 23 "GongTide" "affairs" "LGongTide$Affairs;" ∈ wsX5_agreesWithHeard := by decide +kernel
theorem fl_X5_agreesWithHeard_171 : Cond.fieldLink RX5 171 "GongTide$Affairs" "heard" "LGongTide$Heard;" ∈ wsX5_agreesWithHeard := by decide +kernel
theorem hi_X5_agreesWithHeard_X0 : ∀ w ∈ wsX00, w ∈ wsX5_agreesWithHeard := fun w h => List.mem_cons_of_mem _ (List.mem_append_left _ (List.mem_append_left _ (List.mem_append_right _ h)))
theorem hi_X5_agreesWithHeard_X5 : ∀ w ∈ wsX50, w ∈ wsX5_agreesWithHeard := fun w h => List.mem_cons_of_mem _ (List.mem_append_left _ (List.mem_append_left _ (List.mem_append_left _ (List.mem_append_right _ h))))
def rmX5_agreesWithHeard : Room := { frames := 3, cells := 0, slots := 0, locals := 68 }
set_option maxHeartbeats 4000000 in
set_option maxRecDepth 100000 in
theorem con_X5_agreesWithHeard (lau : Launch) (D : va_G) (cI cB : ClassId) (g : Nat) (pg : Nat) (ki : Nat) (nh : Nat) (rd : Int) (a : Nat) (kp : Nat) (ik : Int) (no : Nat) (su : Nat) (K : Nat → Int) (le : Nat) (s : Nat) (h : Nat) (ch : Int) (V : Nat → Int) (t : Nat) (q : Nat) (f : Nat → Int) (hh : Nat) (hq : Nat) (hl : Nat) (hw : Nat) (n : Nat) (HH : Nat → Int) (HO : Nat → Int) (HL : Nat → Int) (HW : Nat → Int) (qs : Nat) (g0 : Nat → Int) (y0 : Nat) (h2 : n ≤ 6) (hH : ∀ x, x < n → 0 ≤ HH x ∧ HH x < 5 ∧ 0 ≤ HO x ∧ HO x ≤ 11 ∧ 1 ≤ HL x ∧ HL x ≤ 9 ∧ 0 ≤ HW x ∧ HW x ≤ 2) (hy0 : y0 ≤ 9) (hK : ∀ x, x < 5 → 0 ≤ K x ∧ K x ≤ 4) (hV : ∀ x, x < 5 → 0 ≤ V x ∧ V x ≤ 9) (hf : ∀ x, x < 12 → 0 ≤ f x ∧ f x ≤ 54) : jMW (S := Nat → Int) lau yX5_agreesWithHeard wsX5_agreesWithHeard rmX5_agreesWithHeard D cI cB [.ref g, .ref t, .int (jI ((y0 : Nat) : Int))] [oG g pg ki ((nh : Nat) : Int) rd a kp ik no su, aI cI ki 5 K, oA a le s h ch, aI cI le 5 V, oT t q, aI cI q 12 f, oH h hh hq hl hw ((n : Nat) : Int), aI cI hh 6 HH, aI cI hq 6 HO, aI cI hl 6 HL, aI cI hw 6 HW, oT su qs, aI cI qs 12 g0] (fun u => some (.int (jI (jb (sp_agr K V f HH HO HL HW n y0 = true))))) (fun u => True) (fun u => [oG g pg ki ((nh : Nat) : Int) rd a kp ik no su, aI cI ki 5 K, oA a le s h ch, aI cI le 5 V, oT t q, aI cI q 12 f, oH h hh hq hl hw ((n : Nat) : Int), aI cI hh 6 HH, aI cI hq 6 HO, aI cI hl 6 HL, aI cI hw 6 HW, oT su qs, aI cI qs 12 u]) := by
  refine jMW.of (own := RX5) (cc := cX5_agreesWithHeard) (maxL := 7) (ret := (some .boolean)) rfl (by decide) rfl (Nat.le_of_ble_eq_true rfl) ?_
  intro X C E
  refine jw_lv (lv' := [(0, .ref g), (1, .ref t), (2, .int (jI ((y0 : Nat) : Int)))]) [0, 1, 2] rfl ?_
  refine jw_aload_n (pc := 0) C dX5_agreesWithHeard_0 0 rfl ?_
  refine jw_get (pc := 1) C hi_X5_agreesWithHeard_X5 0 rfl rfl 4 (by decide) fl_X5_agreesWithHeard_23 rfl rfl dX5_agreesWithHeard_1 ?_
  refine jw_get (pc := 4) C hi_X5_agreesWithHeard_X0 2 rfl rfl 2 (by decide) fl_X5_agreesWithHeard_171 rfl rfl dX5_agreesWithHeard_4 ?_
  refine jw_astore_n (pc := 7) (lv' := [(3, .ref h), (0, .ref g), (1, .ref t), (2, .int (jI ((y0 : Nat) : Int)))]) C dX5_agreesWithHeard_7 (by decide) rfl ?_
  refine jw_iconst (pc := 8) C dX5_agreesWithHeard_8 ?_
  refine jw_istore (pc := 9) (lv' := [(4, .int (jI 0)), (3, .ref h), (0, .ref g), (1, .ref t), (2, .int (jI ((y0 : Nat) : Int)))]) C dX5_agreesWithHeard_9 (by decide) rfl ?_
  have lp_11_1 : ∀ (fu : Nat) (i : Nat) (c : Nat → Int), (i ≤ n) → (∀ y, y < i → sp_hw (K (HH y).toNat) (V (HH y).toNat) (sp_add f ((y0 : Nat) : Int) (HL y)) (HO y).toNat = HW y) → n - i < fu → jW X 11 [(0, .ref g), (1, .ref t), (2, .int (jI ((y0 : Nat) : Int))), (3, .ref h), (4, .int (jI ((i : Nat) : Int)))] [] [oG g pg ki ((nh : Nat) : Int) rd a kp ik no su, aI cI ki 5 K, oA a le s h ch, aI cI le 5 V, oT t q, aI cI q 12 f, oH h hh hq hl hw ((n : Nat) : Int), aI cI hh 6 HH, aI cI hq 6 HO, aI cI hl 6 HL, aI cI hw 6 HW, oT su qs, aI cI qs 12 c] := by
    intro fu
    induction fu with
    | zero => intro i c hi hg hm; exact absurd hm (Nat.not_lt_zero _)
    | succ fu ih_2 =>
      intro i c hi hg hm
      refine jw_iload (pc := 11) C dX5_agreesWithHeard_11 4 rfl ?_
      refine jw_aload_n (pc := 13) C dX5_agreesWithHeard_13 3 rfl ?_
      refine jw_callRV (pc := 14) C [] [.int (jI ((i : Nat) : Int))] 0 (con_X1_size lau D cI cB h hh hq hl hw n ) gX5_agreesWithHeard_X1_size rfl rfl rfl (by decide +kernel) ⟨Nat.le_of_ble_eq_true rfl, Nat.le_of_ble_eq_true rfl⟩ 6 rfl rfl [6] rfl rfl (Nat.le_of_ble_eq_true rfl) rfl dX5_agreesWithHeard_14 ?_
      refine jw_icmp_ge (pc := 17) (tgt := 76) C dX5_agreesWithHeard_17 (by decide) (by omega) (by omega) (fun c_17 => ?_) (fun c_17 => ?_)
      · -- 17 t
        refine jw_iconst (pc := 76) C dX5_agreesWithHeard_76 ?_
        exact jw_zretW (pc := 77) C E dX5_agreesWithHeard_77 ((c)) (congrArg (fun z => some (Value.int (jI z))) (jb_i1 (sp_agr_iff.mpr (fun y hy => hg y (by omega))))) trivial rfl rfl
      · -- 17 f
        have hH_i := hH i (by omega)
        refine jw_aload_n (pc := 20) C dX5_agreesWithHeard_20 0 rfl ?_
        refine jw_aload_n (pc := 21) C dX5_agreesWithHeard_21 1 rfl ?_
        refine jw_iload_n (pc := 22) C dX5_agreesWithHeard_22 2 rfl ?_
        refine jw_aload_n (pc := 23) C dX5_agreesWithHeard_23 3 rfl ?_
        refine jw_iload (pc := 24) C dX5_agreesWithHeard_24 4 rfl ?_
        refine jw_callRV (pc := 26) C [.int (jI ((i : Nat) : Int))] [.int (jI ((y0 : Nat) : Int)), .ref t, .ref g] 1 (con_X1_loud lau D cI cB h hh hq hl hw n HL i (by omega) (by omega)) gX5_agreesWithHeard_X1_loud rfl rfl rfl (by decide +kernel) ⟨Nat.le_of_ble_eq_true rfl, Nat.le_of_ble_eq_true rfl⟩ 6 rfl rfl [6, 9] rfl rfl (Nat.le_of_ble_eq_true rfl) rfl dX5_agreesWithHeard_26 ?_
        refine jw_callWV (pc := 29) C [.ref t, .int (jI ((((y0 : Nat) : Int)))), .int (jI (((HL i))))] [] 3 (con_X5_suppose lau D cI cB g pg ki nh rd a kp ik no su t q f qs c (((y0 : Nat) : Int)) ((HL i)) (by omega) (by omega)) gX5_agreesWithHeard_X5_suppose rfl rfl rfl (by decide +kernel) ⟨Nat.le_of_ble_eq_true rfl, Nat.le_of_ble_eq_true rfl⟩ 0 rfl rfl [0, 4, 5, 11, 12] [1, 2, 3, 6, 7, 8, 9, 10] [8, 0, 1, 2, 9, 10, 3, 4, 5, 6, 7, 11, 12] (wr := [aI cI ki 5 K, oA a le s h ch, aI cI le 5 V, oH h hh hq hl hw ((n : Nat) : Int), aI cI hh 6 HH, aI cI hq 6 HO, aI cI hl 6 HL, aI cI hw 6 HW]) rfl rfl (by decide) (by decide) (fun _ => rfl) (wN := fun u_29_3 => [oG g pg ki ((nh : Nat) : Int) rd a kp ik no su, aI cI ki 5 K, oA a le s h ch, aI cI le 5 V, oT t q, aI cI q 12 f, oH h hh hq hl hw ((n : Nat) : Int), aI cI hh 6 HH, aI cI hq 6 HO, aI cI hl 6 HL, aI cI hw 6 HW, oT su qs, aI cI qs 12 (sp_add f (((y0 : Nat) : Int)) ((HL i)))]) (fun _ => rfl) (stN := fun u_29_3 => [.ref su]) (fun _ => rfl) rfl (Nat.le_of_ble_eq_true rfl) rfl dX5_agreesWithHeard_29 (fun u_29_3 hu_29_3 => ?_)
        refine jw_astore (pc := 32) (lv' := [(5, .ref su), (0, .ref g), (1, .ref t), (2, .int (jI ((y0 : Nat) : Int))), (3, .ref h), (4, .int (jI ((i : Nat) : Int)))]) C dX5_agreesWithHeard_32 (by decide) rfl ?_
        refine jw_aload_n (pc := 34) C dX5_agreesWithHeard_34 1 rfl ?_
        refine jw_aload_n (pc := 35) C dX5_agreesWithHeard_35 4 rfl ?_
        refine jw_iload (pc := 36) C dX5_agreesWithHeard_36 5 rfl ?_
        refine jw_callRV (pc := 38) C [.int (jI ((i : Nat) : Int))] [.ref g] 1 (con_X1_house lau D cI cB h hh hq hl hw n HH i (by omega) (by omega)) gX5_agreesWithHeard_X1_house rfl rfl rfl (by decide +kernel) ⟨Nat.le_of_ble_eq_true rfl, Nat.le_of_ble_eq_true rfl⟩ 6 rfl rfl [6, 7] rfl rfl (Nat.le_of_ble_eq_true rfl) rfl dX5_agreesWithHeard_38 ?_
        refine jw_top (y := jI (((HH i).toNat : Nat) : Int)) (congrArg jI (by omega)) ?_
        refine jw_aload (pc := 41) C dX5_agreesWithHeard_41 0 rfl ?_
        refine jw_aload_n (pc := 43) C dX5_agreesWithHeard_43 4 rfl ?_
        refine jw_iload (pc := 44) C dX5_agreesWithHeard_44 5 rfl ?_
        refine jw_callRV (pc := 46) C [.int (jI ((i : Nat) : Int))] [.ref su, .int (jI (((HH i).toNat : Nat) : Int)), .ref g] 1 (con_X1_hour lau D cI cB h hh hq hl hw n HO i (by omega) (by omega)) gX5_agreesWithHeard_X1_hour rfl rfl rfl (by decide +kernel) ⟨Nat.le_of_ble_eq_true rfl, Nat.le_of_ble_eq_true rfl⟩ 6 rfl rfl [6, 8] rfl rfl (Nat.le_of_ble_eq_true rfl) rfl dX5_agreesWithHeard_46 ?_
        refine jw_top (y := jI (((HO i).toNat : Nat) : Int)) (congrArg jI (by omega)) ?_
        refine jw_callRV (pc := 49) C [.int (jI ((((HH i).toNat) : Nat) : Int)), .ref su, .int (jI ((((HO i).toNat) : Nat) : Int))] [] 3 (con_X5_mannersAt lau D cI cB g pg ki nh rd a kp ik no su K le s h ch V su qs (sp_add f (((y0 : Nat) : Int)) ((HL i))) ((HH i).toNat) ((HO i).toNat) (by omega) (by omega) hK hV (sp_add_99 hf (by omega))) gX5_agreesWithHeard_X5_mannersAt rfl rfl rfl (by decide +kernel) ⟨Nat.le_of_ble_eq_true rfl, Nat.le_of_ble_eq_true rfl⟩ 0 rfl rfl [0, 1, 2, 3, 11, 12] rfl rfl (Nat.le_of_ble_eq_true rfl) rfl dX5_agreesWithHeard_49 ?_
        have b_49_0 := (sp_mann_b (sp_add_99 hf (by omega)) (by omega) (hV _ (by omega)) : 0 ≤ sp_mann (K ((HH i).toNat)) (V ((HH i).toNat)) (sp_add f (((y0 : Nat) : Int)) ((HL i))) ((HO i).toNat) ∧ sp_mann (K ((HH i).toNat)) (V ((HH i).toNat)) (sp_add f (((y0 : Nat) : Int)) ((HL i))) ((HO i).toNat) ≤ 20)
        refine jw_istore (pc := 52) (lv' := [(6, .int (jI (sp_mann (K ((HH i).toNat)) (V ((HH i).toNat)) (sp_add f (((y0 : Nat) : Int)) ((HL i))) ((HO i).toNat)))), (5, .ref su), (0, .ref g), (1, .ref t), (2, .int (jI ((y0 : Nat) : Int))), (3, .ref h), (4, .int (jI ((i : Nat) : Int)))]) C dX5_agreesWithHeard_52 (by decide) rfl ?_
        refine jw_iload (pc := 54) C dX5_agreesWithHeard_54 0 rfl ?_
        refine jw_callRS (pc := 56) C [.int (jI (((sp_mann (K ((HH i).toNat)) (V ((HH i).toNat)) (sp_add f (((y0 : Nat) : Int)) ((HL i))) ((HO i).toNat)))))] [] 1 (con_X5_howAt lau D cI cB ((sp_mann (K ((HH i).toNat)) (V ((HH i).toNat)) (sp_add f (((y0 : Nat) : Int)) ((HL i))) ((HO i).toNat))) (by omega)) gX5_agreesWithHeard_X5_howAt rfl rfl rfl (by decide +kernel) ⟨Nat.le_of_ble_eq_true rfl, Nat.le_of_ble_eq_true rfl⟩ [] rfl rfl (Nat.le_of_ble_eq_true rfl) rfl dX5_agreesWithHeard_56 ?_
        have b_56_0 := sp_how_b ((sp_mann (K ((HH i).toNat)) (V ((HH i).toNat)) (sp_add f (((y0 : Nat) : Int)) ((HL i))) ((HO i).toNat)))
        refine jw_aload_n (pc := 59) C dX5_agreesWithHeard_59 5 rfl ?_
        refine jw_iload (pc := 60) C dX5_agreesWithHeard_60 6 rfl ?_
        refine jw_callRV (pc := 62) C [.int (jI ((i : Nat) : Int))] [.int (jI (sp_how ((sp_mann (K ((HH i).toNat)) (V ((HH i).toNat)) (sp_add f (((y0 : Nat) : Int)) ((HL i))) ((HO i).toNat)))))] 1 (con_X1_how lau D cI cB h hh hq hl hw n HW i (by omega) (by omega)) gX5_agreesWithHeard_X1_how rfl rfl rfl (by decide +kernel) ⟨Nat.le_of_ble_eq_true rfl, Nat.le_of_ble_eq_true rfl⟩ 6 rfl rfl [6, 10] rfl rfl (Nat.le_of_ble_eq_true rfl) rfl dX5_agreesWithHeard_62 ?_
        refine jw_icmp_eq (pc := 65) (tgt := 70) C dX5_agreesWithHeard_65 (by decide) (by omega) (by omega) (fun c_65 => ?_) (fun c_65 => ?_)
        · -- 65 t
          refine jw_iinc (pc := 70) (z := ((i + 1 : Nat) : Int)) (lv' := [(4, .int (jI ((i + 1 : Nat) : Int))), (6, .int (jI (sp_mann (K ((HH i).toNat)) (V ((HH i).toNat)) (sp_add f (((y0 : Nat) : Int)) ((HL i))) ((HO i).toNat)))), (5, .ref su), (0, .ref g), (1, .ref t), (2, .int (jI ((y0 : Nat) : Int))), (3, .ref h)]) C dX5_agreesWithHeard_70 6 rfl (by omega) (by decide) rfl ?_
          refine jw_goto (pc := 73) (tgt := 11) C dX5_agreesWithHeard_73 (by decide) ?_
          refine jw_lv [3, 4, 5, 6, 0] rfl ?_
          exact ih_2 (i + 1) (sp_add f (((y0 : Nat) : Int)) ((HL i))) (by omega) (fun y hy => by
                by_cases ey : y = i
                · subst ey; exact c_65
                · exact hg y (by omega)) (by omega)
        · -- 65 f
          refine jw_iconst (pc := 68) C dX5_agreesWithHeard_68 ?_
          exact jw_zretW (pc := 69) C E dX5_agreesWithHeard_69 ((sp_add f (((y0 : Nat) : Int)) ((HL i)))) (congrArg (fun z => some (Value.int (jI z))) (jb_i0 (fun q => c_65 (sp_agr_iff.mp q i (by omega))))) trivial rfl rfl
  refine jw_lv [2, 3, 4, 1, 0] rfl ?_
  exact lp_11_1 ((n - 0) + 1) 0 g0 (by omega) (fun y hy => absurd hy (Nat.not_lt_zero _)) (Nat.lt_succ_self _)
theorem fl_X5_mostLeft_23 : Cond.fieldLink RX5 23 "GongTide" "affairs" "LGongTide$Affairs;" ∈ wsX5_mostLeft := by decide +kernel
theorem fl_X5_mostLeft_171 : Cond.fieldLink RX5 171 "GongTide$Affairs" "heard" "LGongTide$Heard;" ∈ wsX5_mostLeft := by decide +kernel
theorem hi_X5_mostLeft_X0 : ∀ w ∈ wsX00, w ∈ wsX5_mostLeft := fun w h => List.mem_cons_of_mem _ (List.mem_append_left _ (List.mem_append_left _ (List.mem_append_right _ h)))
theorem hi_X5_mostLeft_X5 : ∀ w ∈ wsX50, w ∈ wsX5_mostLeft := fun w h => List.mem_cons_of_mem _ (List.mem_append_left _ (List.mem_append_left _ (List.mem_append_left _ (List.mem_append_right _ h))))
theorem mt1_X5_mostLeft_254 : Cond.methodLink RX5 254 Lib.Math.max.name ∈ wsX5_mostLeft := by decide +kernel
theorem mt2_X5_mostLeft_254 : Cond.static Lib.Math.max.name ∈ wsX5_mostLeft := by decide +kernel
theorem mt3_X5_mostLeft_254 : Cond.initialized "java/lang/Math" ∈ wsX5_mostLeft := by decide +kernel
theorem mt4_X5_mostLeft_254 : Cond.code Lib.Math.max.name Lib.Math.max.code 2 (some .int) ∈ wsX5_mostLeft := by decide +kernel
def rmX5_mostLeft : Room := { frames := 4, cells := 0, slots := 0, locals := 84 }
set_option maxHeartbeats 4000000 in
set_option maxRecDepth 100000 in
theorem con_X5_mostLeft (lau : Launch) (D : va_G) (cI cB : ClassId) (g : Nat) (pg : Nat) (ki : Nat) (nh : Nat) (rd : Int) (a : Nat) (kp : Nat) (ik : Int) (no : Nat) (su : Nat) (K : Nat → Int) (le : Nat) (s : Nat) (h : Nat) (ch : Int) (V : Nat → Int) (t : Nat) (q : Nat) (f : Nat → Int) (hh : Nat) (hq : Nat) (hl : Nat) (hw : Nat) (n : Nat) (HL : Nat → Int) (qs : Nat) (g0 : Nat → Int) (b : Nat) (k : Nat) (i : Nat) (h2 : n ≤ 6) (hn0 : 0 < n) (hL : 1 ≤ HL (n - 1) ∧ HL (n - 1) ≤ 9) (hb : b < 1024) (hk : k < 5) (hi : i < 12) (hK : ∀ x, x < 5 → 0 ≤ K x ∧ K x ≤ 4) (hV : ∀ x, x < 5 → 0 ≤ V x ∧ V x ≤ 9) (hf : ∀ x, x < 12 → 0 ≤ f x ∧ f x ≤ 54) : jMW (S := Nat → Int) lau yX5_mostLeft wsX5_mostLeft rmX5_mostLeft D cI cB [.ref g, .int (jI ((b : Nat) : Int)), .ref t, .int (jI ((k : Nat) : Int)), .int (jI ((i : Nat) : Int))] [oG g pg ki ((nh : Nat) : Int) rd a kp ik no su, aI cI ki 5 K, oA a le s h ch, aI cI le 5 V, oT t q, aI cI q 12 f, oH h hh hq hl hw ((n : Nat) : Int), aI cI hl 6 HL, oT su qs, aI cI qs 12 g0] (fun u => some (.int (jI ((sp_worst (K k) (V k) f b (HL (n - 1)) i : Nat) : Int)))) (fun u => True) (fun u => [oG g pg ki ((nh : Nat) : Int) rd a kp ik no su, aI cI ki 5 K, oA a le s h ch, aI cI le 5 V, oT t q, aI cI q 12 f, oH h hh hq hl hw ((n : Nat) : Int), aI cI hl 6 HL, oT su qs, aI cI qs 12 u]) := by
  refine jMW.of (own := RX5) (cc := cX5_mostLeft) (maxL := 10) (ret := (some .int)) rfl (by decide) rfl (Nat.le_of_ble_eq_true rfl) ?_
  intro X C E
  refine jw_lv (lv' := [(0, .ref g), (1, .int (jI ((b : Nat) : Int))), (2, .ref t), (3, .int (jI ((k : Nat) : Int))), (4, .int (jI ((i : Nat) : Int)))]) [0, 1, 2, 3, 4] rfl ?_
  refine jw_aload_n (pc := 0) C dX5_mostLeft_0 0 rfl ?_
  refine jw_get (pc := 1) C hi_X5_mostLeft_X5 0 rfl rfl 4 (by decide) fl_X5_mostLeft_23 rfl rfl dX5_mostLeft_1 ?_
  refine jw_get (pc := 4) C hi_X5_mostLeft_X0 2 rfl rfl 2 (by decide) fl_X5_mostLeft_171 rfl rfl dX5_mostLeft_4 ?_
  refine jw_callRV (pc := 7) C [] [] 0 (con_X1_lastLoud lau D cI cB h hh hq hl hw n HL (by omega) (by omega)) gX5_mostLeft_X1_lastLoud rfl rfl rfl (by decide +kernel) ⟨Nat.le_of_ble_eq_true rfl, Nat.le_of_ble_eq_true rfl⟩ 6 rfl rfl [6, 7] rfl rfl (Nat.le_of_ble_eq_true rfl) rfl dX5_mostLeft_7 ?_
  refine jw_istore (pc := 10) (lv' := [(5, .int (jI (HL (n - 1)))), (0, .ref g), (1, .int (jI ((b : Nat) : Int))), (2, .ref t), (3, .int (jI ((k : Nat) : Int))), (4, .int (jI ((i : Nat) : Int)))]) C dX5_mostLeft_10 (by decide) rfl ?_
  refine jw_iconst (pc := 12) C dX5_mostLeft_12 ?_
  refine jw_istore (pc := 13) (lv' := [(6, .int (jI 0)), (5, .int (jI (HL (n - 1)))), (0, .ref g), (1, .int (jI ((b : Nat) : Int))), (2, .ref t), (3, .int (jI ((k : Nat) : Int))), (4, .int (jI ((i : Nat) : Int)))]) C dX5_mostLeft_13 (by decide) rfl ?_
  refine jw_iconst (pc := 15) C dX5_mostLeft_15 ?_
  refine jw_istore (pc := 16) (lv' := [(7, .int (jI 0)), (6, .int (jI 0)), (5, .int (jI (HL (n - 1)))), (0, .ref g), (1, .int (jI ((b : Nat) : Int))), (2, .ref t), (3, .int (jI ((k : Nat) : Int))), (4, .int (jI ((i : Nat) : Int)))]) C dX5_mostLeft_16 (by decide) rfl ?_
  refine jw_iconst (pc := 18) C dX5_mostLeft_18 ?_
  refine jw_istore (pc := 19) (lv' := [(8, .int (jI 0)), (7, .int (jI 0)), (6, .int (jI 0)), (5, .int (jI (HL (n - 1)))), (0, .ref g), (1, .int (jI ((b : Nat) : Int))), (2, .ref t), (3, .int (jI ((k : Nat) : Int))), (4, .int (jI ((i : Nat) : Int)))]) C dX5_mostLeft_19 (by decide) rfl ?_
  refine jw_iconst (pc := 21) C dX5_mostLeft_21 ?_
  refine jw_istore (pc := 22) (lv' := [(9, .int (jI 0)), (8, .int (jI 0)), (7, .int (jI 0)), (6, .int (jI 0)), (5, .int (jI (HL (n - 1)))), (0, .ref g), (1, .int (jI ((b : Nat) : Int))), (2, .ref t), (3, .int (jI ((k : Nat) : Int))), (4, .int (jI ((i : Nat) : Int)))]) C dX5_mostLeft_22 (by decide) rfl ?_
  have lp_24_1 : ∀ (fu : Nat) (w : Nat) (m0 : Nat) (m1 : Nat) (m2 : Nat) (c : Nat → Int), (w ≤ 10) → (m0 ≤ w ∧ m1 ≤ w ∧ m2 ≤ w) → (m0 = sp_cnt (sp_lc (K k) (V k) f b (HL (n - 1)) i 0) w) → (m1 = sp_cnt (sp_lc (K k) (V k) f b (HL (n - 1)) i 1) w) → (m2 = sp_cnt (sp_lc (K k) (V k) f b (HL (n - 1)) i 2) w) → 10 - w < fu → jW X 24 [(0, .ref g), (1, .int (jI ((b : Nat) : Int))), (2, .ref t), (3, .int (jI ((k : Nat) : Int))), (4, .int (jI ((i : Nat) : Int))), (5, .int (jI (HL (n - 1)))), (6, .int (jI ((m0 : Nat) : Int))), (7, .int (jI ((m1 : Nat) : Int))), (8, .int (jI ((m2 : Nat) : Int))), (9, .int (jI ((w : Nat) : Int)))] [] [oG g pg ki ((nh : Nat) : Int) rd a kp ik no su, aI cI ki 5 K, oA a le s h ch, aI cI le 5 V, oT t q, aI cI q 12 f, oH h hh hq hl hw ((n : Nat) : Int), aI cI hl 6 HL, oT su qs, aI cI qs 12 c] := by
    intro fu
    induction fu with
    | zero => intro w m0 m1 m2 c hw10 hmb hm0 hm1 hm2 hm; exact absurd hm (Nat.not_lt_zero _)
    | succ fu ih_2 =>
      intro w m0 m1 m2 c hw10 hmb hm0 hm1 hm2 hm
      refine jw_iload (pc := 24) C dX5_mostLeft_24 9 rfl ?_
      refine jw_bipush (pc := 26) C dX5_mostLeft_26 (by decide +kernel) ?_
      refine jw_icmp_ge (pc := 28) (tgt := 109) C dX5_mostLeft_28 (by decide) (by omega) (by omega) (fun c_28 => ?_) (fun c_28 => ?_)
      · -- 28 t
        refine jw_iload (pc := 109) C dX5_mostLeft_109 6 rfl ?_
        refine jw_iload (pc := 111) C dX5_mostLeft_111 7 rfl ?_
        refine jw_iload (pc := 113) C dX5_mostLeft_113 8 rfl ?_
        refine jw_max (pc := 115) C mt1_X5_mostLeft_254 mt2_X5_mostLeft_254 mt3_X5_mostLeft_254 mt4_X5_mostLeft_254 (Nat.le_of_ble_eq_true rfl) (Nat.le_of_ble_eq_true rfl) (by omega) (by omega) dX5_mostLeft_115 (z := ((sp_mx m1 m2 : Nat) : Int)) (by unfold sp_mx; (repeat' split) <;> omega) ?_
        have hmx : sp_mx m1 m2 ≤ 10 := by unfold sp_mx; split <;> omega
        refine jw_max (pc := 118) C mt1_X5_mostLeft_254 mt2_X5_mostLeft_254 mt3_X5_mostLeft_254 mt4_X5_mostLeft_254 (Nat.le_of_ble_eq_true rfl) (Nat.le_of_ble_eq_true rfl) (by omega) (by omega) dX5_mostLeft_118 (z := ((sp_mx m0 (sp_mx m1 m2) : Nat) : Int)) (by unfold sp_mx; (repeat' split) <;> omega) ?_
        exact jw_iretW (pc := 121) C E dX5_mostLeft_121 ((c)) (by rw [hm0, hm1, hm2, show w = 10 by omega]; rfl) trivial rfl
      · -- 28 f
        refine jw_iload_n (pc := 31) C dX5_mostLeft_31 1 rfl ?_
        refine jw_iload (pc := 32) C dX5_mostLeft_32 9 rfl ?_
        refine jw_ishr (pc := 34) C (jI ((b / 2 ^ w : Nat) : Int)) dX5_mostLeft_34 (jI_shr (by omega) (by omega)) ?_
        refine jw_iconst (pc := 35) C dX5_mostLeft_35 ?_
        refine jw_iand (pc := 36) C (jI ((sp_bit b w : Nat) : Int)) dX5_mostLeft_36 (jI_and1 (Nat.lt_of_le_of_lt (Nat.div_le_self _ _) (by omega))) ?_
        have hbt := sp_bit_b b w
        refine jw_if_ne (pc := 37) (tgt := 43) C dX5_mostLeft_37 (by decide) (by omega) (fun c_37 => ?_) (fun c_37 => ?_)
        · -- 37 t
          refine jw_aload_n (pc := 43) C dX5_mostLeft_43 0 rfl ?_
          refine jw_iload_n (pc := 44) C dX5_mostLeft_44 3 rfl ?_
          refine jw_aload_n (pc := 45) C dX5_mostLeft_45 0 rfl ?_
          refine jw_aload_n (pc := 46) C dX5_mostLeft_46 2 rfl ?_
          refine jw_iload (pc := 47) C dX5_mostLeft_47 9 rfl ?_
          refine jw_iload (pc := 49) C dX5_mostLeft_49 5 rfl ?_
          refine jw_callWV (pc := 51) C [.ref t, .int (jI ((((w : Nat) : Int)))), .int (jI (((HL (n - 1)))))] [.int (jI ((k : Nat) : Int)), .ref g] 3 (con_X5_suppose lau D cI cB g pg ki nh rd a kp ik no su t q f qs c (((w : Nat) : Int)) ((HL (n - 1))) (by omega) (by omega)) gX5_mostLeft_X5_suppose rfl rfl rfl (by decide +kernel) ⟨Nat.le_of_ble_eq_true rfl, Nat.le_of_ble_eq_true rfl⟩ 0 rfl rfl [0, 4, 5, 8, 9] [1, 2, 3, 6, 7] [5, 0, 1, 2, 6, 7, 3, 4, 8, 9] (wr := [aI cI ki 5 K, oA a le s h ch, aI cI le 5 V, oH h hh hq hl hw ((n : Nat) : Int), aI cI hl 6 HL]) rfl rfl (by decide) (by decide) (fun _ => rfl) (wN := fun u_51_3 => [oG g pg ki ((nh : Nat) : Int) rd a kp ik no su, aI cI ki 5 K, oA a le s h ch, aI cI le 5 V, oT t q, aI cI q 12 f, oH h hh hq hl hw ((n : Nat) : Int), aI cI hl 6 HL, oT su qs, aI cI qs 12 (sp_add f (((w : Nat) : Int)) ((HL (n - 1))))]) (fun _ => rfl) (stN := fun u_51_3 => [.ref su, .int (jI ((k : Nat) : Int)), .ref g]) (fun _ => rfl) rfl (Nat.le_of_ble_eq_true rfl) rfl dX5_mostLeft_51 (fun u_51_3 hu_51_3 => ?_)
          refine jw_iload (pc := 54) C dX5_mostLeft_54 4 rfl ?_
          refine jw_callRV (pc := 56) C [.int (jI ((k : Nat) : Int)), .ref su, .int (jI ((i : Nat) : Int))] [] 3 (con_X5_mannersAt lau D cI cB g pg ki nh rd a kp ik no su K le s h ch V su qs (sp_add f (((w : Nat) : Int)) ((HL (n - 1)))) k i (by omega) (by omega) hK hV (sp_add_99 hf (by omega))) gX5_mostLeft_X5_mannersAt rfl rfl rfl (by decide +kernel) ⟨Nat.le_of_ble_eq_true rfl, Nat.le_of_ble_eq_true rfl⟩ 0 rfl rfl [0, 1, 2, 3, 8, 9] rfl rfl (Nat.le_of_ble_eq_true rfl) rfl dX5_mostLeft_56 ?_
          have b_56_0 := (sp_mann_b (sp_add_99 hf (by omega)) (by omega) (hV _ (by omega)) : 0 ≤ sp_mann (K k) (V k) (sp_add f (((w : Nat) : Int)) ((HL (n - 1)))) i ∧ sp_mann (K k) (V k) (sp_add f (((w : Nat) : Int)) ((HL (n - 1)))) i ≤ 20)
          refine jw_callRS (pc := 59) C [.int (jI (((sp_mann (K k) (V k) (sp_add f (((w : Nat) : Int)) ((HL (n - 1)))) i))))] [] 1 (con_X5_howAt lau D cI cB ((sp_mann (K k) (V k) (sp_add f (((w : Nat) : Int)) ((HL (n - 1)))) i)) (by omega)) gX5_mostLeft_X5_howAt rfl rfl rfl (by decide +kernel) ⟨Nat.le_of_ble_eq_true rfl, Nat.le_of_ble_eq_true rfl⟩ [] rfl rfl (Nat.le_of_ble_eq_true rfl) rfl dX5_mostLeft_59 ?_
          have b_59_0 := sp_how_b ((sp_mann (K k) (V k) (sp_add f (((w : Nat) : Int)) ((HL (n - 1)))) i))
          have hsw : sp_hw (K k) (V k) (sp_add f ((w : Nat) : Int) (HL (n - 1))) i = sp_how (sp_mann (K k) (V k) (sp_add f ((w : Nat) : Int) (HL (n - 1))) i) := rfl
          by_cases sw_62_0 : (sp_how ((sp_mann (K k) (V k) (sp_add f (((w : Nat) : Int)) ((HL (n - 1)))) i))) = 0
          · -- case 0
            refine jw_lookup (pc := 62) (tgt := 88) C dX5_mostLeft_62 (by decide) (by omega) (by rw [sw_62_0] <;> rfl) (by decide) ?_
            refine jw_iinc (pc := 88) (z := ((m0 + 1 : Nat) : Int)) (lv' := [(6, .int (jI ((m0 + 1 : Nat) : Int))), (0, .ref g), (1, .int (jI ((b : Nat) : Int))), (2, .ref t), (3, .int (jI ((k : Nat) : Int))), (4, .int (jI ((i : Nat) : Int))), (5, .int (jI (HL (n - 1)))), (7, .int (jI ((m1 : Nat) : Int))), (8, .int (jI ((m2 : Nat) : Int))), (9, .int (jI ((w : Nat) : Int)))]) C dX5_mostLeft_88 6 rfl (by omega) (by decide) rfl ?_
            refine jw_goto (pc := 91) (tgt := 103) C dX5_mostLeft_91 (by decide) ?_
            refine jw_iinc (pc := 103) (z := ((w + 1 : Nat) : Int)) (lv' := [(9, .int (jI ((w + 1 : Nat) : Int))), (6, .int (jI ((m0 + 1 : Nat) : Int))), (0, .ref g), (1, .int (jI ((b : Nat) : Int))), (2, .ref t), (3, .int (jI ((k : Nat) : Int))), (4, .int (jI ((i : Nat) : Int))), (5, .int (jI (HL (n - 1)))), (7, .int (jI ((m1 : Nat) : Int))), (8, .int (jI ((m2 : Nat) : Int)))]) C dX5_mostLeft_103 9 rfl (by omega) (by decide) rfl ?_
            refine jw_goto (pc := 106) (tgt := 24) C dX5_mostLeft_106 (by decide) ?_
            refine jw_lv [2, 3, 4, 5, 6, 7, 1, 8, 9, 0] rfl ?_
            exact ih_2 (w + 1) (m0 + 1) m1 m2 (sp_add f (((w : Nat) : Int)) ((HL (n - 1)))) (by omega) (by omega) (by rw [hm0]; first | exact (sp_cnt_t (s := sp_lc (K k) (V k) f b (HL (n - 1)) i 0) (decide_eq_true ⟨by omega, by omega⟩)).symm | exact (sp_cnt_f (s := sp_lc (K k) (V k) f b (HL (n - 1)) i 0) (fun q => by have := of_decide_eq_true q; omega)).symm) (by rw [hm1]; first | exact (sp_cnt_t (s := sp_lc (K k) (V k) f b (HL (n - 1)) i 1) (decide_eq_true ⟨by omega, by omega⟩)).symm | exact (sp_cnt_f (s := sp_lc (K k) (V k) f b (HL (n - 1)) i 1) (fun q => by have := of_decide_eq_true q; omega)).symm) (by rw [hm2]; first | exact (sp_cnt_t (s := sp_lc (K k) (V k) f b (HL (n - 1)) i 2) (decide_eq_true ⟨by omega, by omega⟩)).symm | exact (sp_cnt_f (s := sp_lc (K k) (V k) f b (HL (n - 1)) i 2) (fun q => by have := of_decide_eq_true q; omega)).symm) (by omega)
          ·
            by_cases sw_62_1 : (sp_how ((sp_mann (K k) (V k) (sp_add f (((w : Nat) : Int)) ((HL (n - 1)))) i))) = 1
            · -- case 1
              refine jw_lookup (pc := 62) (tgt := 94) C dX5_mostLeft_62 (by decide) (by omega) (by rw [sw_62_1] <;> rfl) (by decide) ?_
              refine jw_iinc (pc := 94) (z := ((m1 + 1 : Nat) : Int)) (lv' := [(7, .int (jI ((m1 + 1 : Nat) : Int))), (0, .ref g), (1, .int (jI ((b : Nat) : Int))), (2, .ref t), (3, .int (jI ((k : Nat) : Int))), (4, .int (jI ((i : Nat) : Int))), (5, .int (jI (HL (n - 1)))), (6, .int (jI ((m0 : Nat) : Int))), (8, .int (jI ((m2 : Nat) : Int))), (9, .int (jI ((w : Nat) : Int)))]) C dX5_mostLeft_94 7 rfl (by omega) (by decide) rfl ?_
              refine jw_goto (pc := 97) (tgt := 103) C dX5_mostLeft_97 (by decide) ?_
              refine jw_iinc (pc := 103) (z := ((w + 1 : Nat) : Int)) (lv' := [(9, .int (jI ((w + 1 : Nat) : Int))), (7, .int (jI ((m1 + 1 : Nat) : Int))), (0, .ref g), (1, .int (jI ((b : Nat) : Int))), (2, .ref t), (3, .int (jI ((k : Nat) : Int))), (4, .int (jI ((i : Nat) : Int))), (5, .int (jI (HL (n - 1)))), (6, .int (jI ((m0 : Nat) : Int))), (8, .int (jI ((m2 : Nat) : Int)))]) C dX5_mostLeft_103 9 rfl (by omega) (by decide) rfl ?_
              refine jw_goto (pc := 106) (tgt := 24) C dX5_mostLeft_106 (by decide) ?_
              refine jw_lv [2, 3, 4, 5, 6, 7, 8, 1, 9, 0] rfl ?_
              exact ih_2 (w + 1) m0 (m1 + 1) m2 (sp_add f (((w : Nat) : Int)) ((HL (n - 1)))) (by omega) (by omega) (by rw [hm0]; first | exact (sp_cnt_t (s := sp_lc (K k) (V k) f b (HL (n - 1)) i 0) (decide_eq_true ⟨by omega, by omega⟩)).symm | exact (sp_cnt_f (s := sp_lc (K k) (V k) f b (HL (n - 1)) i 0) (fun q => by have := of_decide_eq_true q; omega)).symm) (by rw [hm1]; first | exact (sp_cnt_t (s := sp_lc (K k) (V k) f b (HL (n - 1)) i 1) (decide_eq_true ⟨by omega, by omega⟩)).symm | exact (sp_cnt_f (s := sp_lc (K k) (V k) f b (HL (n - 1)) i 1) (fun q => by have := of_decide_eq_true q; omega)).symm) (by rw [hm2]; first | exact (sp_cnt_t (s := sp_lc (K k) (V k) f b (HL (n - 1)) i 2) (decide_eq_true ⟨by omega, by omega⟩)).symm | exact (sp_cnt_f (s := sp_lc (K k) (V k) f b (HL (n - 1)) i 2) (fun q => by have := of_decide_eq_true q; omega)).symm) (by omega)
            ·
              refine jw_lookup (pc := 62) (tgt := 100) (off := 38) C dX5_mostLeft_62 (by decide) (by omega) (by first | (simp only [Op.lookupswitch.offset]; (repeat' split) <;> omega) | (simp [Op.lookupswitch.offset]; omega)) (by decide) ?_
              refine jw_iinc (pc := 100) (z := ((m2 + 1 : Nat) : Int)) (lv' := [(8, .int (jI ((m2 + 1 : Nat) : Int))), (0, .ref g), (1, .int (jI ((b : Nat) : Int))), (2, .ref t), (3, .int (jI ((k : Nat) : Int))), (4, .int (jI ((i : Nat) : Int))), (5, .int (jI (HL (n - 1)))), (6, .int (jI ((m0 : Nat) : Int))), (7, .int (jI ((m1 : Nat) : Int))), (9, .int (jI ((w : Nat) : Int)))]) C dX5_mostLeft_100 8 rfl (by omega) (by decide) rfl ?_
              refine jw_iinc (pc := 103) (z := ((w + 1 : Nat) : Int)) (lv' := [(9, .int (jI ((w + 1 : Nat) : Int))), (8, .int (jI ((m2 + 1 : Nat) : Int))), (0, .ref g), (1, .int (jI ((b : Nat) : Int))), (2, .ref t), (3, .int (jI ((k : Nat) : Int))), (4, .int (jI ((i : Nat) : Int))), (5, .int (jI (HL (n - 1)))), (6, .int (jI ((m0 : Nat) : Int))), (7, .int (jI ((m1 : Nat) : Int)))]) C dX5_mostLeft_103 9 rfl (by omega) (by decide) rfl ?_
              refine jw_goto (pc := 106) (tgt := 24) C dX5_mostLeft_106 (by decide) ?_
              refine jw_lv [2, 3, 4, 5, 6, 7, 8, 9, 1, 0] rfl ?_
              exact ih_2 (w + 1) m0 m1 (m2 + 1) (sp_add f (((w : Nat) : Int)) ((HL (n - 1)))) (by omega) (by omega) (by rw [hm0]; first | exact (sp_cnt_t (s := sp_lc (K k) (V k) f b (HL (n - 1)) i 0) (decide_eq_true ⟨by omega, by omega⟩)).symm | exact (sp_cnt_f (s := sp_lc (K k) (V k) f b (HL (n - 1)) i 0) (fun q => by have := of_decide_eq_true q; omega)).symm) (by rw [hm1]; first | exact (sp_cnt_t (s := sp_lc (K k) (V k) f b (HL (n - 1)) i 1) (decide_eq_true ⟨by omega, by omega⟩)).symm | exact (sp_cnt_f (s := sp_lc (K k) (V k) f b (HL (n - 1)) i 1) (fun q => by have := of_decide_eq_true q; omega)).symm) (by rw [hm2]; first | exact (sp_cnt_t (s := sp_lc (K k) (V k) f b (HL (n - 1)) i 2) (decide_eq_true ⟨by omega, by omega⟩)).symm | exact (sp_cnt_f (s := sp_lc (K k) (V k) f b (HL (n - 1)) i 2) (fun q => by have := of_decide_eq_true q; omega)).symm) (by omega)
        · -- 37 f
          refine jw_goto (pc := 40) (tgt := 103) C dX5_mostLeft_40 (by decide) ?_
          refine jw_iinc (pc := 103) (z := ((w + 1 : Nat) : Int)) (lv' := [(9, .int (jI ((w + 1 : Nat) : Int))), (0, .ref g), (1, .int (jI ((b : Nat) : Int))), (2, .ref t), (3, .int (jI ((k : Nat) : Int))), (4, .int (jI ((i : Nat) : Int))), (5, .int (jI (HL (n - 1)))), (6, .int (jI ((m0 : Nat) : Int))), (7, .int (jI ((m1 : Nat) : Int))), (8, .int (jI ((m2 : Nat) : Int)))]) C dX5_mostLeft_103 9 rfl (by omega) (by decide) rfl ?_
          refine jw_goto (pc := 106) (tgt := 24) C dX5_mostLeft_106 (by decide) ?_
          refine jw_lv [1, 2, 3, 4, 5, 6, 7, 8, 9, 0] rfl ?_
          exact ih_2 (w + 1) m0 m1 m2 c (by omega) (by omega) (by rw [hm0]; first | exact (sp_cnt_t (s := sp_lc (K k) (V k) f b (HL (n - 1)) i 0) (decide_eq_true ⟨by omega, by omega⟩)).symm | exact (sp_cnt_f (s := sp_lc (K k) (V k) f b (HL (n - 1)) i 0) (fun q => by have := of_decide_eq_true q; omega)).symm) (by rw [hm1]; first | exact (sp_cnt_t (s := sp_lc (K k) (V k) f b (HL (n - 1)) i 1) (decide_eq_true ⟨by omega, by omega⟩)).symm | exact (sp_cnt_f (s := sp_lc (K k) (V k) f b (HL (n - 1)) i 1) (fun q => by have := of_decide_eq_true q; omega)).symm) (by rw [hm2]; first | exact (sp_cnt_t (s := sp_lc (K k) (V k) f b (HL (n - 1)) i 2) (decide_eq_true ⟨by omega, by omega⟩)).symm | exact (sp_cnt_f (s := sp_lc (K k) (V k) f b (HL (n - 1)) i 2) (fun q => by have := of_decide_eq_true q; omega)).symm) (by omega)
  refine jw_lv [5, 6, 7, 8, 9, 4, 3, 2, 1, 0] rfl ?_
  exact lp_24_1 ((10 - 0) + 1) 0 0 0 0 g0 (by omega) (by omega) rfl rfl rfl (Nat.lt_succ_self _)
