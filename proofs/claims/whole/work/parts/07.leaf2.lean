theorem fl_X3_size_18 : Cond.fieldLink RX3 18 "GongTide$Strokes" "size" "I" ∈ wsX3_size := by decide +kernel
theorem hi_X3_size_X3 : ∀ w ∈ wsX30, w ∈ wsX3_size := fun w h => List.mem_cons_of_mem _ (List.mem_append_right _ h)
def rmX3_size : Room := { frames := 0, cells := 0, slots := 0, locals := 0 }
set_option maxHeartbeats 4000000 in
set_option maxRecDepth 100000 in
theorem con_X3_size (lau : Launch) (D : va_G) (cI cB : ClassId) (s : Nat) (hr : Nat) (lo : Nat) (n : Nat)  : jMR lau yX3_size wsX3_size rmX3_size D cI cB [.ref s] [oS s hr lo ((n : Nat) : Int)] (.int (jI ((n : Nat) : Int))) := by
  refine jMR.of (own := RX3) (cc := cX3_size) (maxL := 1) (ret := (some .int)) rfl (by decide) rfl (Nat.le_of_ble_eq_true rfl) ?_
  intro X C E
  refine jw_lv (lv' := [(0, .ref s)]) [0] rfl ?_
  refine jw_aload_n (pc := 0) C dX3_size_0 0 rfl ?_
  refine jw_get (pc := 1) C hi_X3_size_X3 0 rfl rfl 2 (by decide) fl_X3_size_18 rfl rfl dX3_size_1 ?_
  exact jw_iretR (pc := 4) C E dX3_size_4 rfl
theorem fl_X3_clear_18 : Cond.fieldLink RX3 18 "GongTide$Strokes" "size" "I" ∈ wsX3_clear := by decide +kernel
theorem hi_X3_clear_X3 : ∀ w ∈ wsX30, w ∈ wsX3_clear := fun w h => List.mem_cons_of_mem _ (List.mem_append_right _ h)
def rmX3_clear : Room := { frames := 0, cells := 0, slots := 0, locals := 0 }
set_option maxHeartbeats 4000000 in
set_option maxRecDepth 100000 in
theorem con_X3_clear (lau : Launch) (D : va_G) (cI cB : ClassId) (s : Nat) (hr : Nat) (lo : Nat) (n : Int)  : jMW (S := Unit) lau yX3_clear wsX3_clear rmX3_clear D cI cB [.ref s] [oS s hr lo n] (fun u => none) (fun u => True) (fun u => [oS s hr lo ((0 : Nat) : Int)]) := by
  refine jMW.of (own := RX3) (cc := cX3_clear) (maxL := 1) (ret := none) rfl (by decide) rfl (Nat.le_of_ble_eq_true rfl) ?_
  intro X C E
  refine jw_lv (lv' := [(0, .ref s)]) [0] rfl ?_
  refine jw_aload_n (pc := 0) C dX3_clear_0 0 rfl ?_
  refine jw_iconst (pc := 1) C dX3_clear_1 ?_
  refine jw_put (pc := 2) (ty := .int) (ws' := [oS s hr lo 0]) C hi_X3_clear_X3 tyX3 tyX3_ok nmX3 0 rfl rfl 2 (by decide) fl_X3_clear_18 rfl rfl (by decide +kernel) rfl rfl (Nat.le_of_ble_eq_true rfl) rfl dX3_clear_2 ?_
  exact jw_vretW (pc := 5) C E dX3_clear_5 (()) rfl trivial rfl
theorem fl_X3_has_18 : Cond.fieldLink RX3 18 "GongTide$Strokes" "size" "I" ∈ wsX3_has := by decide +kernel
theorem hi_X3_has_X3 : ∀ w ∈ wsX30, w ∈ wsX3_has := fun w h => List.mem_cons_of_mem _ (List.mem_append_right _ h)
theorem ni_X3_has_X5_isWithin : Cond.initialized RX5 ∈ wsX3_has := by decide +kernel
theorem ns_X3_has_X5_isWithin : Cond.static yX5_isWithin ∈ wsX3_has := by decide +kernel
def rmX3_has : Room := { frames := 1, cells := 0, slots := 0, locals := 22 }
set_option maxHeartbeats 4000000 in
set_option maxRecDepth 100000 in
theorem con_X3_has (lau : Launch) (D : va_G) (cI cB : ClassId) (s : Nat) (hr : Nat) (lo : Nat) (n : Nat) (z : Int) (h1 : -2147483648 ≤ z ∧ z < 2147483648) (h2 : n ≤ 6) : jMR lau yX3_has wsX3_has rmX3_has D cI cB [.ref s, .int (jI z)] [oS s hr lo ((n : Nat) : Int)] (.int (jI (jb (0 ≤ z ∧ z ≤ ((n : Nat) : Int) - 1)))) := by
  refine jMR.of (own := RX3) (cc := cX3_has) (maxL := 2) (ret := (some .boolean)) rfl (by decide) rfl (Nat.le_of_ble_eq_true rfl) ?_
  intro X C E
  refine jw_lv (lv' := [(0, .ref s), (1, .int (jI z))]) [0, 1] rfl ?_
  refine jw_iload_n (pc := 0) C dX3_has_0 1 rfl ?_
  refine jw_iconst (pc := 1) C dX3_has_1 ?_
  refine jw_aload_n (pc := 2) C dX3_has_2 0 rfl ?_
  refine jw_get (pc := 3) C hi_X3_has_X3 0 rfl rfl 2 (by decide) fl_X3_has_18 rfl rfl dX3_has_3 ?_
  refine jw_iconst (pc := 6) C dX3_has_6 ?_
  refine jw_isub (pc := 7) (z := (((n : Nat) : Int) - 1)) C dX3_has_7 rfl ?_
  refine jw_callRN (pc := 8) C [.int (jI z), .int (jI 0), .int (jI (((((n : Nat) : Int) - 1))))] [] 3 (con_X5_isWithin lau D cI cB z 0 ((((n : Nat) : Int) - 1)) (by omega) (by omega) (by omega)) gX3_has_X5_isWithin_n22 rfl rfl rfl (fun U h => h.2.2.2.2.2.2.2.2.2.1) ni_X3_has_X5_isWithin ns_X3_has_X5_isWithin (by decide +kernel) ⟨Nat.le_of_ble_eq_true rfl, Nat.le_of_ble_eq_true rfl⟩ [] rfl rfl (Nat.le_of_ble_eq_true rfl) rfl dX3_has_8 ?_
  exact jw_zretR (pc := 11) C E dX3_has_11 rfl (jb_n _)
theorem fl_X3_hour_9 : Cond.fieldLink RX3 9 "GongTide$Strokes" "hours" "[I" ∈ wsX3_hour := by decide +kernel
theorem hi_X3_hour_X3 : ∀ w ∈ wsX30, w ∈ wsX3_hour := fun w h => List.mem_cons_of_mem _ (List.mem_append_right _ h)
def rmX3_hour : Room := { frames := 2, cells := 0, slots := 0, locals := 43 }
set_option maxHeartbeats 4000000 in
set_option maxRecDepth 100000 in
theorem con_X3_hour (lau : Launch) (D : va_G) (cI cB : ClassId) (s : Nat) (hr : Nat) (lo : Nat) (n : Nat) (SH : Nat → Int) (SL : Nat → Int) (k : Nat) (h2 : n ≤ 6) (hk : k < n) : jMR lau yX3_hour wsX3_hour rmX3_hour D cI cB [.ref s, .int (jI ((k : Nat) : Int))] [oS s hr lo ((n : Nat) : Int), aI cI hr 6 SH, aI cI lo 6 SL] (.int (jI (SH k))) := by
  refine jMR.of (own := RX3) (cc := cX3_hour) (maxL := 2) (ret := (some .int)) rfl (by decide) rfl (Nat.le_of_ble_eq_true rfl) ?_
  intro X C E
  refine jw_lv (lv' := [(0, .ref s), (1, .int (jI ((k : Nat) : Int)))]) [0, 1] rfl ?_
  refine jw_aload_n (pc := 0) C dX3_hour_0 0 rfl ?_
  refine jw_iload_n (pc := 1) C dX3_hour_1 1 rfl ?_
  refine jw_callRV (pc := 2) C [.int (jI ((((k : Nat) : Int))))] [] 1 (con_X3_has lau D cI cB s hr lo n (((k : Nat) : Int)) (by omega) (by omega)) gX3_hour_X3_has rfl rfl rfl (by decide +kernel) ⟨Nat.le_of_ble_eq_true rfl, Nat.le_of_ble_eq_true rfl⟩ 0 rfl rfl [0] rfl rfl (Nat.le_of_ble_eq_true rfl) rfl dX3_hour_2 ?_
  refine jw_ifb_eq (pc := 5) (tgt := 17) C dX3_hour_5 (by decide) (fun c_5 => ?_) (fun c_5 => ?_)
  · exfalso; omega
  · -- 5 f
    refine jw_aload_n (pc := 8) C dX3_hour_8 0 rfl ?_
    refine jw_get (pc := 9) C hi_X3_hour_X3 0 rfl rfl 0 (by decide) fl_X3_hour_9 rfl rfl dX3_hour_9 ?_
    refine jw_iload_n (pc := 12) C dX3_hour_12 1 rfl ?_
    refine jw_iald (pc := 13) C (f := SH) 1 k rfl rfl (by omega) (by decide) dX3_hour_13 ?_
    refine jw_goto (pc := 14) (tgt := 18) C dX3_hour_14 (by decide) ?_
    exact jw_iretR (pc := 18) C E dX3_hour_18 rfl
theorem fl_X3_loud_15 : Cond.fieldLink RX3 15 "GongTide$Strokes" "louds" "[I" ∈ wsX3_loud := by decide +kernel
theorem hi_X3_loud_X3 : ∀ w ∈ wsX30, w ∈ wsX3_loud := fun w h => List.mem_cons_of_mem _ (List.mem_append_right _ h)
def rmX3_loud : Room := { frames := 2, cells := 0, slots := 0, locals := 43 }
set_option maxHeartbeats 4000000 in
set_option maxRecDepth 100000 in
theorem con_X3_loud (lau : Launch) (D : va_G) (cI cB : ClassId) (s : Nat) (hr : Nat) (lo : Nat) (n : Nat) (SH : Nat → Int) (SL : Nat → Int) (k : Nat) (h2 : n ≤ 6) (hk : k < n) : jMR lau yX3_loud wsX3_loud rmX3_loud D cI cB [.ref s, .int (jI ((k : Nat) : Int))] [oS s hr lo ((n : Nat) : Int), aI cI hr 6 SH, aI cI lo 6 SL] (.int (jI (SL k))) := by
  refine jMR.of (own := RX3) (cc := cX3_loud) (maxL := 2) (ret := (some .int)) rfl (by decide) rfl (Nat.le_of_ble_eq_true rfl) ?_
  intro X C E
  refine jw_lv (lv' := [(0, .ref s), (1, .int (jI ((k : Nat) : Int)))]) [0, 1] rfl ?_
  refine jw_aload_n (pc := 0) C dX3_loud_0 0 rfl ?_
  refine jw_iload_n (pc := 1) C dX3_loud_1 1 rfl ?_
  refine jw_callRV (pc := 2) C [.int (jI ((((k : Nat) : Int))))] [] 1 (con_X3_has lau D cI cB s hr lo n (((k : Nat) : Int)) (by omega) (by omega)) gX3_loud_X3_has rfl rfl rfl (by decide +kernel) ⟨Nat.le_of_ble_eq_true rfl, Nat.le_of_ble_eq_true rfl⟩ 0 rfl rfl [0] rfl rfl (Nat.le_of_ble_eq_true rfl) rfl dX3_loud_2 ?_
  refine jw_ifb_eq (pc := 5) (tgt := 17) C dX3_loud_5 (by decide) (fun c_5 => ?_) (fun c_5 => ?_)
  · exfalso; omega
  · -- 5 f
    refine jw_aload_n (pc := 8) C dX3_loud_8 0 rfl ?_
    refine jw_get (pc := 9) C hi_X3_loud_X3 0 rfl rfl 1 (by decide) fl_X3_loud_15 rfl rfl dX3_loud_9 ?_
    refine jw_iload_n (pc := 12) C dX3_loud_12 1 rfl ?_
    refine jw_iald (pc := 13) C (f := SL) 2 k rfl rfl (by omega) (by decide) dX3_loud_13 ?_
    refine jw_goto (pc := 14) (tgt := 18) C dX3_loud_14 (by decide) ?_
    exact jw_iretR (pc := 18) C E dX3_loud_18 rfl
theorem fl_X3_setLoud_15 : Cond.fieldLink RX3 15 "GongTide$Strokes" "louds" "[I" ∈ wsX3_setLoud := by decide +kernel
theorem hi_X3_setLoud_X3 : ∀ w ∈ wsX30, w ∈ wsX3_setLoud := fun w h => List.mem_cons_of_mem _ (List.mem_append_right _ h)
def rmX3_setLoud : Room := { frames := 2, cells := 0, slots := 0, locals := 43 }
set_option maxHeartbeats 4000000 in
set_option maxRecDepth 100000 in
theorem con_X3_setLoud (lau : Launch) (D : va_G) (cI cB : ClassId) (s : Nat) (hr : Nat) (lo : Nat) (n : Nat) (SH : Nat → Int) (SL : Nat → Int) (k : Nat) (v : Int) (h2 : n ≤ 6) (hk : k < n) : jMW (S := Unit) lau yX3_setLoud wsX3_setLoud rmX3_setLoud D cI cB [.ref s, .int (jI ((k : Nat) : Int)), .int (jI v)] [oS s hr lo ((n : Nat) : Int), aI cI hr 6 SH, aI cI lo 6 SL] (fun u => none) (fun u => True) (fun u => [oS s hr lo ((n : Nat) : Int), aI cI hr 6 SH, aI cI lo 6 (va_up SL k v)]) := by
  refine jMW.of (own := RX3) (cc := cX3_setLoud) (maxL := 3) (ret := none) rfl (by decide) rfl (Nat.le_of_ble_eq_true rfl) ?_
  intro X C E
  refine jw_lv (lv' := [(0, .ref s), (1, .int (jI ((k : Nat) : Int))), (2, .int (jI v))]) [0, 1, 2] rfl ?_
  refine jw_aload_n (pc := 0) C dX3_setLoud_0 0 rfl ?_
  refine jw_iload_n (pc := 1) C dX3_setLoud_1 1 rfl ?_
  refine jw_callRV (pc := 2) C [.int (jI ((((k : Nat) : Int))))] [] 1 (con_X3_has lau D cI cB s hr lo n (((k : Nat) : Int)) (by omega) (by omega)) gX3_setLoud_X3_has rfl rfl rfl (by decide +kernel) ⟨Nat.le_of_ble_eq_true rfl, Nat.le_of_ble_eq_true rfl⟩ 0 rfl rfl [0] rfl rfl (Nat.le_of_ble_eq_true rfl) rfl dX3_setLoud_2 ?_
  refine jw_ifb_eq (pc := 5) (tgt := 15) C dX3_setLoud_5 (by decide) (fun c_5 => ?_) (fun c_5 => ?_)
  · exfalso; omega
  · -- 5 f
    refine jw_aload_n (pc := 8) C dX3_setLoud_8 0 rfl ?_
    refine jw_get (pc := 9) C hi_X3_setLoud_X3 0 rfl rfl 1 (by decide) fl_X3_setLoud_15 rfl rfl dX3_setLoud_9 ?_
    refine jw_iload_n (pc := 12) C dX3_setLoud_12 1 rfl ?_
    refine jw_iload_n (pc := 13) C dX3_setLoud_13 2 rfl ?_
    refine jw_iast (pc := 14) C (f := SL) 2 k rfl rfl (by omega) (by decide) (ws' := [oS s hr lo ((n : Nat) : Int), aI cI hr 6 SH, aI cI lo 6 (va_up SL k v)]) rfl dX3_setLoud_14 ?_
    exact jw_vretW (pc := 15) C E dX3_setLoud_15 (()) rfl trivial rfl
theorem fl_X3_add_9 : Cond.fieldLink RX3 9 "GongTide$Strokes" "hours" "[I" ∈ wsX3_add := by decide +kernel
theorem fl_X3_add_15 : Cond.fieldLink RX3 15 "GongTide$Strokes" "louds" "[I" ∈ wsX3_add := by decide +kernel
theorem fl_X3_add_18 : Cond.fieldLink RX3 18 "GongTide$Strokes" "size" "I" ∈ wsX3_add := by decide +kernel
theorem hi_X3_add_X3 : ∀ w ∈ wsX30, w ∈ wsX3_add := fun w h => List.mem_cons_of_mem _ (List.mem_append_right _ h)
def rmX3_add : Room := { frames := 0, cells := 0, slots := 0, locals := 0 }
set_option maxHeartbeats 4000000 in
set_option maxRecDepth 100000 in
theorem con_X3_add (lau : Launch) (D : va_G) (cI cB : ClassId) (s : Nat) (hr : Nat) (lo : Nat) (n : Nat) (SH : Nat → Int) (SL : Nat → Int) (a : Int) (v : Int) (h2 : n < 6) : jMW (S := Unit) lau yX3_add wsX3_add rmX3_add D cI cB [.ref s, .int (jI a), .int (jI v)] [oS s hr lo ((n : Nat) : Int), aI cI hr 6 SH, aI cI lo 6 SL] (fun u => some (.int (jI 1))) (fun u => True) (fun u => [oS s hr lo ((n + 1 : Nat) : Int), aI cI hr 6 (va_up SH n a), aI cI lo 6 (va_up SL n v)]) := by
  refine jMW.of (own := RX3) (cc := cX3_add) (maxL := 3) (ret := (some .boolean)) rfl (by decide) rfl (Nat.le_of_ble_eq_true rfl) ?_
  intro X C E
  refine jw_lv (lv' := [(0, .ref s), (1, .int (jI a)), (2, .int (jI v))]) [0, 1, 2] rfl ?_
  refine jw_aload_n (pc := 0) C dX3_add_0 0 rfl ?_
  refine jw_get (pc := 1) C hi_X3_add_X3 0 rfl rfl 2 (by decide) fl_X3_add_18 rfl rfl dX3_add_1 ?_
  refine jw_bipush (pc := 4) C dX3_add_4 (by decide +kernel) ?_
  refine jw_icmp_lt (pc := 6) (tgt := 11) C dX3_add_6 (by decide) (by omega) (by omega) (fun c_6 => ?_) (fun c_6 => ?_)
  · -- 6 t
    refine jw_aload_n (pc := 11) C dX3_add_11 0 rfl ?_
    refine jw_get (pc := 12) C hi_X3_add_X3 0 rfl rfl 0 (by decide) fl_X3_add_9 rfl rfl dX3_add_12 ?_
    refine jw_aload_n (pc := 15) C dX3_add_15 0 rfl ?_
    refine jw_get (pc := 16) C hi_X3_add_X3 0 rfl rfl 2 (by decide) fl_X3_add_18 rfl rfl dX3_add_16 ?_
    refine jw_iload_n (pc := 19) C dX3_add_19 1 rfl ?_
    refine jw_iast (pc := 20) C (f := SH) 1 n rfl rfl (by omega) (by decide) (ws' := [oS s hr lo ((n : Nat) : Int), aI cI hr 6 (va_up SH n a), aI cI lo 6 SL]) rfl dX3_add_20 ?_
    refine jw_aload_n (pc := 21) C dX3_add_21 0 rfl ?_
    refine jw_get (pc := 22) C hi_X3_add_X3 0 rfl rfl 1 (by decide) fl_X3_add_15 rfl rfl dX3_add_22 ?_
    refine jw_aload_n (pc := 25) C dX3_add_25 0 rfl ?_
    refine jw_get (pc := 26) C hi_X3_add_X3 0 rfl rfl 2 (by decide) fl_X3_add_18 rfl rfl dX3_add_26 ?_
    refine jw_iload_n (pc := 29) C dX3_add_29 2 rfl ?_
    refine jw_iast (pc := 30) C (f := SL) 2 n rfl rfl (by omega) (by decide) (ws' := [oS s hr lo ((n : Nat) : Int), aI cI hr 6 (va_up SH n a), aI cI lo 6 (va_up SL n v)]) rfl dX3_add_30 ?_
    refine jw_aload_n (pc := 31) C dX3_add_31 0 rfl ?_
    refine jw_dup (pc := 32) C dX3_add_32 rfl ?_
    refine jw_get (pc := 33) C hi_X3_add_X3 0 rfl rfl 2 (by decide) fl_X3_add_18 rfl rfl dX3_add_33 ?_
    refine jw_iconst (pc := 36) C dX3_add_36 ?_
    refine jw_iadd (pc := 37) (z := ((n + 1 : Nat) : Int)) C dX3_add_37 (by omega) ?_
    refine jw_put (pc := 38) (ty := .int) (ws' := [oS s hr lo ((n + 1 : Nat) : Int), aI cI hr 6 (va_up SH n a), aI cI lo 6 (va_up SL n v)]) C hi_X3_add_X3 tyX3 tyX3_ok nmX3 0 rfl rfl 2 (by decide) fl_X3_add_18 rfl rfl (by decide +kernel) rfl rfl (Nat.le_of_ble_eq_true rfl) rfl dX3_add_38 ?_
    refine jw_iconst (pc := 41) C dX3_add_41 ?_
    exact jw_zretW (pc := 42) C E dX3_add_42 (()) rfl trivial rfl rfl
  · exfalso; omega
set_option maxHeartbeats 4000000 in
set_option maxRecDepth 100000 in
theorem con_X3_addF (lau : Launch) (D : va_G) (cI cB : ClassId) (s : Nat) (hr : Nat) (lo : Nat) (n : Nat) (SH : Nat → Int) (SL : Nat → Int) (a : Int) (v : Int) (h2 : n = 6) : jMW (S := Unit) lau yX3_add wsX3_add rmX3_add D cI cB [.ref s, .int (jI a), .int (jI v)] [oS s hr lo ((n : Nat) : Int), aI cI hr 6 SH, aI cI lo 6 SL] (fun u => some (.int (jI 0))) (fun u => True) (fun u => [oS s hr lo ((n : Nat) : Int), aI cI hr 6 SH, aI cI lo 6 SL]) := by
  refine jMW.of (own := RX3) (cc := cX3_add) (maxL := 3) (ret := (some .boolean)) rfl (by decide) rfl (Nat.le_of_ble_eq_true rfl) ?_
  intro X C E
  refine jw_lv (lv' := [(0, .ref s), (1, .int (jI a)), (2, .int (jI v))]) [0, 1, 2] rfl ?_
  refine jw_aload_n (pc := 0) C dX3_add_0 0 rfl ?_
  refine jw_get (pc := 1) C hi_X3_add_X3 0 rfl rfl 2 (by decide) fl_X3_add_18 rfl rfl dX3_add_1 ?_
  refine jw_bipush (pc := 4) C dX3_add_4 (by decide +kernel) ?_
  refine jw_icmp_lt (pc := 6) (tgt := 11) C dX3_add_6 (by decide) (by omega) (by omega) (fun c_6 => ?_) (fun c_6 => ?_)
  · exfalso; omega
  · -- 6 f
    refine jw_iconst (pc := 9) C dX3_add_9 ?_
    exact jw_zretW (pc := 10) C E dX3_add_10 (()) rfl trivial rfl rfl
def rmX3_goneAt : Room := { frames := 3, cells := 0, slots := 0, locals := 64 }
set_option maxHeartbeats 4000000 in
set_option maxRecDepth 100000 in
theorem con_X3_goneAt (lau : Launch) (D : va_G) (cI cB : ClassId) (s : Nat) (hr : Nat) (lo : Nat) (n : Nat) (SH : Nat → Int) (SL : Nat → Int) (k : Nat) (h2 : n ≤ 6) (hk : k < n) (hb : 0 ≤ SH k ∧ SH k ≤ 9 ∧ 0 ≤ SL k ∧ SL k ≤ 9) : jMR lau yX3_goneAt wsX3_goneAt rmX3_goneAt D cI cB [.ref s, .int (jI ((k : Nat) : Int))] [oS s hr lo ((n : Nat) : Int), aI cI hr 6 SH, aI cI lo 6 SL] (.int (jI (sp_gone (SH k) (SL k)))) := by
  refine jMR.of (own := RX3) (cc := cX3_goneAt) (maxL := 3) (ret := (some .int)) rfl (by decide) rfl (Nat.le_of_ble_eq_true rfl) ?_
  intro X C E
  refine jw_lv (lv' := [(0, .ref s), (1, .int (jI ((k : Nat) : Int)))]) [0, 1] rfl ?_
  refine jw_aload_n (pc := 0) C dX3_goneAt_0 0 rfl ?_
  refine jw_iload_n (pc := 1) C dX3_goneAt_1 1 rfl ?_
  refine jw_callRV (pc := 2) C [.int (jI ((k : Nat) : Int))] [] 1 (con_X3_hour lau D cI cB s hr lo n SH SL k (by omega) (by omega)) gX3_goneAt_X3_hour rfl rfl rfl (by decide +kernel) ⟨Nat.le_of_ble_eq_true rfl, Nat.le_of_ble_eq_true rfl⟩ 0 rfl rfl [0, 1, 2] rfl rfl (Nat.le_of_ble_eq_true rfl) rfl dX3_goneAt_2 ?_
  refine jw_aload_n (pc := 5) C dX3_goneAt_5 0 rfl ?_
  refine jw_iload_n (pc := 6) C dX3_goneAt_6 1 rfl ?_
  refine jw_callRV (pc := 7) C [.int (jI ((k : Nat) : Int))] [.int (jI (SH k))] 1 (con_X3_loud lau D cI cB s hr lo n SH SL k (by omega) (by omega)) gX3_goneAt_X3_loud rfl rfl rfl (by decide +kernel) ⟨Nat.le_of_ble_eq_true rfl, Nat.le_of_ble_eq_true rfl⟩ 0 rfl rfl [0, 1, 2] rfl rfl (Nat.le_of_ble_eq_true rfl) rfl dX3_goneAt_7 ?_
  refine jw_iconst (pc := 10) C dX3_goneAt_10 ?_
  refine jw_iadd (pc := 11) (z := ((SL k) + 2)) C dX3_goneAt_11 rfl ?_
  refine jw_iconst (pc := 12) C dX3_goneAt_12 ?_
  refine jw_isub (pc := 13) (z := (((SL k) + 2) - 1)) C dX3_goneAt_13 rfl ?_
  refine jw_iconst (pc := 14) C dX3_goneAt_14 ?_
  refine jw_idiv (pc := 15) C (jI ((SL k + 2 - 1) / 2)) dX3_goneAt_15 (jI_ne0 (by omega)) (jI_div (by omega) (by omega)) ?_
  refine jw_iadd (pc := 16) (z := ((SH k) + ((SL k + 2 - 1) / 2))) C dX3_goneAt_16 rfl ?_
  refine jw_istore_n (pc := 17) (lv' := [(2, .int (jI ((SH k) + ((SL k + 2 - 1) / 2)))), (0, .ref s), (1, .int (jI ((k : Nat) : Int)))]) C dX3_goneAt_17 (by decide) rfl ?_
  refine jw_iload_n (pc := 18) C dX3_goneAt_18 0 rfl ?_
  refine jw_bipush (pc := 19) C dX3_goneAt_19 (by decide +kernel) ?_
  refine jw_icmp_ge (pc := 21) (tgt := 28) C dX3_goneAt_21 (by decide) (by omega) (by omega) (fun c_21 => ?_) (fun c_21 => ?_)
  · -- 21 t
    refine jw_iconst (pc := 28) C dX3_goneAt_28 ?_
    exact jw_iretR (pc := 29) C E dX3_goneAt_29 (congrArg jI (by unfold sp_gone; (repeat' split) <;> omega))
  · -- 21 f
    refine jw_iload_n (pc := 24) C dX3_goneAt_24 0 rfl ?_
    refine jw_goto (pc := 25) (tgt := 29) C dX3_goneAt_25 (by decide) ?_
    exact jw_iretR (pc := 29) C E dX3_goneAt_29 (congrArg jI (by unfold sp_gone; (repeat' split) <;> omega))
theorem fl_X3_copyFrom_9 : Cond.fieldLink RX3 9 "GongTide$Strokes" "hours" "[I" ∈ wsX3_copyFrom := by decide +kernel
theorem fl_X3_copyFrom_15 : Cond.fieldLink RX3 15 "GongTide$Strokes" "louds" "[I" ∈ wsX3_copyFrom := by decide +kernel
theorem fl_X3_copyFrom_18 : Cond.fieldLink RX3 18 "GongTide$Strokes" "size" "I" ∈ wsX3_copyFrom := by decide +kernel
theorem hi_X3_copyFrom_X3 : ∀ w ∈ wsX30, w ∈ wsX3_copyFrom := fun w h => List.mem_cons_of_mem _ (List.mem_append_right _ h)
def rmX3_copyFrom : Room := { frames := 0, cells := 0, slots := 0, locals := 0 }
set_option maxHeartbeats 4000000 in
set_option maxRecDepth 100000 in
theorem con_X3_copyFrom (lau : Launch) (D : va_G) (cI cB : ClassId) (s : Nat) (hr : Nat) (lo : Nat) (n : Int) (SH : Nat → Int) (SL : Nat → Int) (s2 : Nat) (hr2 : Nat) (lo2 : Nat) (n2 : Nat) (SH2 : Nat → Int) (SL2 : Nat → Int)  : jMW (S := Unit) lau yX3_copyFrom wsX3_copyFrom rmX3_copyFrom D cI cB [.ref s, .ref s2] [oS s hr lo n, aI cI hr 6 SH, aI cI lo 6 SL, oS s2 hr2 lo2 ((n2 : Nat) : Int), aI cI hr2 6 SH2, aI cI lo2 6 SL2] (fun u => none) (fun u => True) (fun u => [oS s hr lo ((n2 : Nat) : Int), aI cI hr 6 SH2, aI cI lo 6 SL2, oS s2 hr2 lo2 ((n2 : Nat) : Int), aI cI hr2 6 SH2, aI cI lo2 6 SL2]) := by
  refine jMW.of (own := RX3) (cc := cX3_copyFrom) (maxL := 3) (ret := none) rfl (by decide) rfl (Nat.le_of_ble_eq_true rfl) ?_
  intro X C E
  refine jw_lv (lv' := [(0, .ref s), (1, .ref s2)]) [0, 1] rfl ?_
  refine jw_aload_n (pc := 0) C dX3_copyFrom_0 0 rfl ?_
  refine jw_aload_n (pc := 1) C dX3_copyFrom_1 1 rfl ?_
  refine jw_get (pc := 2) C hi_X3_copyFrom_X3 3 rfl rfl 2 (by decide) fl_X3_copyFrom_18 rfl rfl dX3_copyFrom_2 ?_
  refine jw_put (pc := 5) (ty := .int) (ws' := [oS s hr lo ((n2 : Nat) : Int), aI cI hr 6 SH, aI cI lo 6 SL, oS s2 hr2 lo2 ((n2 : Nat) : Int), aI cI hr2 6 SH2, aI cI lo2 6 SL2]) C hi_X3_copyFrom_X3 tyX3 tyX3_ok nmX3 0 rfl rfl 2 (by decide) fl_X3_copyFrom_18 rfl rfl (by decide +kernel) rfl rfl (Nat.le_of_ble_eq_true rfl) rfl dX3_copyFrom_5 ?_
  refine jw_iconst (pc := 8) C dX3_copyFrom_8 ?_
  refine jw_istore_n (pc := 9) (lv' := [(2, .int (jI 0)), (0, .ref s), (1, .ref s2)]) C dX3_copyFrom_9 (by decide) rfl ?_
  have lp_10_1 : ∀ (fu : Nat) (i : Nat) (c0 : Nat → Int) (c1 : Nat → Int), (i ≤ 6) → (∀ j, j < i → c0 j = SH2 j) → (∀ j, j < i → c1 j = SL2 j) → 6 - i < fu → jW X 10 [(0, .ref s), (1, .ref s2), (2, .int (jI ((i : Nat) : Int)))] [] [oS s hr lo ((n2 : Nat) : Int), aI cI hr 6 c0, aI cI lo 6 c1, oS s2 hr2 lo2 ((n2 : Nat) : Int), aI cI hr2 6 SH2, aI cI lo2 6 SL2] := by
    intro fu
    induction fu with
    | zero => intro i c0 c1 hi hc0 hc1 hm; exact absurd hm (Nat.not_lt_zero _)
    | succ fu ih_2 =>
      intro i c0 c1 hi hc0 hc1 hm
      refine jw_iload_n (pc := 10) C dX3_copyFrom_10 2 rfl ?_
      refine jw_bipush (pc := 11) C dX3_copyFrom_11 (by decide +kernel) ?_
      refine jw_icmp_ge (pc := 13) (tgt := 46) C dX3_copyFrom_13 (by decide) (by omega) (by omega) (fun c_13 => ?_) (fun c_13 => ?_)
      · -- 13 t
        refine jw_arr (f := c0) (g := SH2) (ws' := [oS s hr lo ((n2 : Nat) : Int), aI cI hr 6 SH2, aI cI lo 6 c1, oS s2 hr2 lo2 ((n2 : Nat) : Int), aI cI hr2 6 SH2, aI cI lo2 6 SL2]) 1 rfl (by exact fun j hj => hc0 j (by omega)) rfl ?_
        refine jw_arr (f := c1) (g := SL2) (ws' := [oS s hr lo ((n2 : Nat) : Int), aI cI hr 6 SH2, aI cI lo 6 SL2, oS s2 hr2 lo2 ((n2 : Nat) : Int), aI cI hr2 6 SH2, aI cI lo2 6 SL2]) 2 rfl (by exact fun j hj => hc1 j (by omega)) rfl ?_
        exact jw_vretW (pc := 46) C E dX3_copyFrom_46 (()) rfl trivial rfl
      · -- 13 f
        refine jw_aload_n (pc := 16) C dX3_copyFrom_16 0 rfl ?_
        refine jw_get (pc := 17) C hi_X3_copyFrom_X3 0 rfl rfl 0 (by decide) fl_X3_copyFrom_9 rfl rfl dX3_copyFrom_17 ?_
        refine jw_iload_n (pc := 20) C dX3_copyFrom_20 2 rfl ?_
        refine jw_aload_n (pc := 21) C dX3_copyFrom_21 1 rfl ?_
        refine jw_get (pc := 22) C hi_X3_copyFrom_X3 3 rfl rfl 0 (by decide) fl_X3_copyFrom_9 rfl rfl dX3_copyFrom_22 ?_
        refine jw_iload_n (pc := 25) C dX3_copyFrom_25 2 rfl ?_
        refine jw_iald (pc := 26) C (f := SH2) 4 i rfl rfl (by omega) (by decide) dX3_copyFrom_26 ?_
        refine jw_iast (pc := 27) C (f := c0) 1 i rfl rfl (by omega) (by decide) (ws' := [oS s hr lo ((n2 : Nat) : Int), aI cI hr 6 (va_up c0 i (SH2 i)), aI cI lo 6 c1, oS s2 hr2 lo2 ((n2 : Nat) : Int), aI cI hr2 6 SH2, aI cI lo2 6 SL2]) rfl dX3_copyFrom_27 ?_
        refine jw_aload_n (pc := 28) C dX3_copyFrom_28 0 rfl ?_
        refine jw_get (pc := 29) C hi_X3_copyFrom_X3 0 rfl rfl 1 (by decide) fl_X3_copyFrom_15 rfl rfl dX3_copyFrom_29 ?_
        refine jw_iload_n (pc := 32) C dX3_copyFrom_32 2 rfl ?_
        refine jw_aload_n (pc := 33) C dX3_copyFrom_33 1 rfl ?_
        refine jw_get (pc := 34) C hi_X3_copyFrom_X3 3 rfl rfl 1 (by decide) fl_X3_copyFrom_15 rfl rfl dX3_copyFrom_34 ?_
        refine jw_iload_n (pc := 37) C dX3_copyFrom_37 2 rfl ?_
        refine jw_iald (pc := 38) C (f := SL2) 5 i rfl rfl (by omega) (by decide) dX3_copyFrom_38 ?_
        refine jw_iast (pc := 39) C (f := c1) 2 i rfl rfl (by omega) (by decide) (ws' := [oS s hr lo ((n2 : Nat) : Int), aI cI hr 6 (va_up c0 i (SH2 i)), aI cI lo 6 (va_up c1 i (SL2 i)), oS s2 hr2 lo2 ((n2 : Nat) : Int), aI cI hr2 6 SH2, aI cI lo2 6 SL2]) rfl dX3_copyFrom_39 ?_
        refine jw_iinc (pc := 40) (z := ((i + 1 : Nat) : Int)) (lv' := [(2, .int (jI ((i + 1 : Nat) : Int))), (0, .ref s), (1, .ref s2)]) C dX3_copyFrom_40 2 rfl (by omega) (by decide) rfl ?_
        refine jw_goto (pc := 43) (tgt := 10) C dX3_copyFrom_43 (by decide) ?_
        refine jw_lv [1, 2, 0] rfl ?_
        exact ih_2 (i + 1) (va_up c0 i (SH2 i)) (va_up c1 i (SL2 i)) (by omega) (sp_cpy_step (n := 6) rfl hc0) (sp_cpy_step (n := 6) rfl hc1) (by omega)
  refine jw_lv [1, 2, 0] rfl ?_
  exact lp_10_1 ((6 - 0) + 1) 0 SH SL (by omega) (fun j hj => absurd hj (Nat.not_lt_zero _)) (fun j hj => absurd hj (Nat.not_lt_zero _)) (Nat.lt_succ_self _)
theorem fl_X1_size_24 : Cond.fieldLink RX1 24 "GongTide$Heard" "size" "I" ∈ wsX1_size := by decide +kernel
theorem hi_X1_size_X1 : ∀ w ∈ wsX10, w ∈ wsX1_size := fun w h => List.mem_cons_of_mem _ (List.mem_append_right _ h)
def rmX1_size : Room := { frames := 0, cells := 0, slots := 0, locals := 0 }
set_option maxHeartbeats 4000000 in
set_option maxRecDepth 100000 in
theorem con_X1_size (lau : Launch) (D : va_G) (cI cB : ClassId) (h : Nat) (hh : Nat) (hq : Nat) (hl : Nat) (hw : Nat) (n : Nat)  : jMR lau yX1_size wsX1_size rmX1_size D cI cB [.ref h] [oH h hh hq hl hw ((n : Nat) : Int)] (.int (jI ((n : Nat) : Int))) := by
  refine jMR.of (own := RX1) (cc := cX1_size) (maxL := 1) (ret := (some .int)) rfl (by decide) rfl (Nat.le_of_ble_eq_true rfl) ?_
  intro X C E
  refine jw_lv (lv' := [(0, .ref h)]) [0] rfl ?_
  refine jw_aload_n (pc := 0) C dX1_size_0 0 rfl ?_
  refine jw_get (pc := 1) C hi_X1_size_X1 0 rfl rfl 4 (by decide) fl_X1_size_24 rfl rfl dX1_size_1 ?_
  exact jw_iretR (pc := 4) C E dX1_size_4 rfl
theorem fl_X1_clear_24 : Cond.fieldLink RX1 24 "GongTide$Heard" "size" "I" ∈ wsX1_clear := by decide +kernel
theorem hi_X1_clear_X1 : ∀ w ∈ wsX10, w ∈ wsX1_clear := fun w h => List.mem_cons_of_mem _ (List.mem_append_right _ h)
def rmX1_clear : Room := { frames := 0, cells := 0, slots := 0, locals := 0 }
set_option maxHeartbeats 4000000 in
set_option maxRecDepth 100000 in
theorem con_X1_clear (lau : Launch) (D : va_G) (cI cB : ClassId) (h : Nat) (hh : Nat) (hq : Nat) (hl : Nat) (hw : Nat) (n : Nat)  : jMW (S := Unit) lau yX1_clear wsX1_clear rmX1_clear D cI cB [.ref h] [oH h hh hq hl hw ((n : Nat) : Int)] (fun u => some (.int (jI ((n : Nat) : Int)))) (fun u => True) (fun u => [oH h hh hq hl hw ((0 : Nat) : Int)]) := by
  refine jMW.of (own := RX1) (cc := cX1_clear) (maxL := 2) (ret := (some .int)) rfl (by decide) rfl (Nat.le_of_ble_eq_true rfl) ?_
  intro X C E
  refine jw_lv (lv' := [(0, .ref h)]) [0] rfl ?_
  refine jw_aload_n (pc := 0) C dX1_clear_0 0 rfl ?_
  refine jw_get (pc := 1) C hi_X1_clear_X1 0 rfl rfl 4 (by decide) fl_X1_clear_24 rfl rfl dX1_clear_1 ?_
  refine jw_istore_n (pc := 4) (lv' := [(1, .int (jI ((n : Nat) : Int))), (0, .ref h)]) C dX1_clear_4 (by decide) rfl ?_
  refine jw_aload_n (pc := 5) C dX1_clear_5 1 rfl ?_
  refine jw_iconst (pc := 6) C dX1_clear_6 ?_
  refine jw_put (pc := 7) (ty := .int) (ws' := [oH h hh hq hl hw 0]) C hi_X1_clear_X1 tyX1 tyX1_ok nmX1 0 rfl rfl 4 (by decide) fl_X1_clear_24 rfl rfl (by decide +kernel) rfl rfl (Nat.le_of_ble_eq_true rfl) rfl dX1_clear_7 ?_
  refine jw_iload_n (pc := 10) C dX1_clear_10 0 rfl ?_
  exact jw_iretW (pc := 11) C E dX1_clear_11 (()) rfl trivial rfl
theorem fl_X1_has_24 : Cond.fieldLink RX1 24 "GongTide$Heard" "size" "I" ∈ wsX1_has := by decide +kernel
theorem hi_X1_has_X1 : ∀ w ∈ wsX10, w ∈ wsX1_has := fun w h => List.mem_cons_of_mem _ (List.mem_append_right _ h)
theorem ni_X1_has_X5_isWithin : Cond.initialized RX5 ∈ wsX1_has := by decide +kernel
theorem ns_X1_has_X5_isWithin : Cond.static yX5_isWithin ∈ wsX1_has := by decide +kernel
def rmX1_has : Room := { frames := 1, cells := 0, slots := 0, locals := 22 }
set_option maxHeartbeats 4000000 in
set_option maxRecDepth 100000 in
theorem con_X1_has (lau : Launch) (D : va_G) (cI cB : ClassId) (h : Nat) (hh : Nat) (hq : Nat) (hl : Nat) (hw : Nat) (n : Nat) (z : Int) (h1 : -2147483648 ≤ z ∧ z < 2147483648) (h2 : n ≤ 6) : jMR lau yX1_has wsX1_has rmX1_has D cI cB [.ref h, .int (jI z)] [oH h hh hq hl hw ((n : Nat) : Int)] (.int (jI (jb (0 ≤ z ∧ z ≤ ((n : Nat) : Int) - 1)))) := by
  refine jMR.of (own := RX1) (cc := cX1_has) (maxL := 2) (ret := (some .boolean)) rfl (by decide) rfl (Nat.le_of_ble_eq_true rfl) ?_
  intro X C E
  refine jw_lv (lv' := [(0, .ref h), (1, .int (jI z))]) [0, 1] rfl ?_
  refine jw_iload_n (pc := 0) C dX1_has_0 1 rfl ?_
  refine jw_iconst (pc := 1) C dX1_has_1 ?_
  refine jw_aload_n (pc := 2) C dX1_has_2 0 rfl ?_
  refine jw_get (pc := 3) C hi_X1_has_X1 0 rfl rfl 4 (by decide) fl_X1_has_24 rfl rfl dX1_has_3 ?_
  refine jw_iconst (pc := 6) C dX1_has_6 ?_
  refine jw_isub (pc := 7) (z := (((n : Nat) : Int) - 1)) C dX1_has_7 rfl ?_
  refine jw_callRN (pc := 8) C [.int (jI z), .int (jI 0), .int (jI (((((n : Nat) : Int) - 1))))] [] 3 (con_X5_isWithin lau D cI cB z 0 ((((n : Nat) : Int) - 1)) (by omega) (by omega) (by omega)) gX1_has_X5_isWithin_n28 rfl rfl rfl (fun U h => h.2.2.2.2.2.2.2.2.2.2) ni_X1_has_X5_isWithin ns_X1_has_X5_isWithin (by decide +kernel) ⟨Nat.le_of_ble_eq_true rfl, Nat.le_of_ble_eq_true rfl⟩ [] rfl rfl (Nat.le_of_ble_eq_true rfl) rfl dX1_has_8 ?_
  exact jw_zretR (pc := 11) C E dX1_has_11 rfl (jb_n _)
theorem fl_X1_house_9 : Cond.fieldLink RX1 9 "GongTide$Heard" "houses" "[I" ∈ wsX1_house := by decide +kernel
theorem hi_X1_house_X1 : ∀ w ∈ wsX10, w ∈ wsX1_house := fun w h => List.mem_cons_of_mem _ (List.mem_append_right _ h)
def rmX1_house : Room := { frames := 2, cells := 0, slots := 0, locals := 43 }
set_option maxHeartbeats 4000000 in
set_option maxRecDepth 100000 in
theorem con_X1_house (lau : Launch) (D : va_G) (cI cB : ClassId) (h : Nat) (hh : Nat) (hq : Nat) (hl : Nat) (hw : Nat) (n : Nat) (HH : Nat → Int) (k : Nat) (h2 : n ≤ 6) (hk : k < n) : jMR lau yX1_house wsX1_house rmX1_house D cI cB [.ref h, .int (jI ((k : Nat) : Int))] [oH h hh hq hl hw ((n : Nat) : Int), aI cI hh 6 HH] (.int (jI (HH k))) := by
  refine jMR.of (own := RX1) (cc := cX1_house) (maxL := 2) (ret := (some .int)) rfl (by decide) rfl (Nat.le_of_ble_eq_true rfl) ?_
  intro X C E
  refine jw_lv (lv' := [(0, .ref h), (1, .int (jI ((k : Nat) : Int)))]) [0, 1] rfl ?_
  refine jw_aload_n (pc := 0) C dX1_house_0 0 rfl ?_
  refine jw_iload_n (pc := 1) C dX1_house_1 1 rfl ?_
  refine jw_callRV (pc := 2) C [.int (jI ((((k : Nat) : Int))))] [] 1 (con_X1_has lau D cI cB h hh hq hl hw n (((k : Nat) : Int)) (by omega) (by omega)) gX1_house_X1_has rfl rfl rfl (by decide +kernel) ⟨Nat.le_of_ble_eq_true rfl, Nat.le_of_ble_eq_true rfl⟩ 0 rfl rfl [0] rfl rfl (Nat.le_of_ble_eq_true rfl) rfl dX1_house_2 ?_
  refine jw_ifb_eq (pc := 5) (tgt := 17) C dX1_house_5 (by decide) (fun c_5 => ?_) (fun c_5 => ?_)
  · exfalso; omega
  · -- 5 f
    refine jw_aload_n (pc := 8) C dX1_house_8 0 rfl ?_
    refine jw_get (pc := 9) C hi_X1_house_X1 0 rfl rfl 0 (by decide) fl_X1_house_9 rfl rfl dX1_house_9 ?_
    refine jw_iload_n (pc := 12) C dX1_house_12 1 rfl ?_
    refine jw_iald (pc := 13) C (f := HH) 1 k rfl rfl (by omega) (by decide) dX1_house_13 ?_
    refine jw_goto (pc := 14) (tgt := 18) C dX1_house_14 (by decide) ?_
    exact jw_iretR (pc := 18) C E dX1_house_18 rfl
theorem fl_X1_hour_15 : Cond.fieldLink RX1 15 "GongTide$Heard" "hours" "[I" ∈ wsX1_hour := by decide +kernel
theorem hi_X1_hour_X1 : ∀ w ∈ wsX10, w ∈ wsX1_hour := fun w h => List.mem_cons_of_mem _ (List.mem_append_right _ h)
def rmX1_hour : Room := { frames := 2, cells := 0, slots := 0, locals := 43 }
set_option maxHeartbeats 4000000 in
set_option maxRecDepth 100000 in
theorem con_X1_hour (lau : Launch) (D : va_G) (cI cB : ClassId) (h : Nat) (hh : Nat) (hq : Nat) (hl : Nat) (hw : Nat) (n : Nat) (HO : Nat → Int) (k : Nat) (h2 : n ≤ 6) (hk : k < n) : jMR lau yX1_hour wsX1_hour rmX1_hour D cI cB [.ref h, .int (jI ((k : Nat) : Int))] [oH h hh hq hl hw ((n : Nat) : Int), aI cI hq 6 HO] (.int (jI (HO k))) := by
  refine jMR.of (own := RX1) (cc := cX1_hour) (maxL := 2) (ret := (some .int)) rfl (by decide) rfl (Nat.le_of_ble_eq_true rfl) ?_
  intro X C E
  refine jw_lv (lv' := [(0, .ref h), (1, .int (jI ((k : Nat) : Int)))]) [0, 1] rfl ?_
  refine jw_aload_n (pc := 0) C dX1_hour_0 0 rfl ?_
  refine jw_iload_n (pc := 1) C dX1_hour_1 1 rfl ?_
  refine jw_callRV (pc := 2) C [.int (jI ((((k : Nat) : Int))))] [] 1 (con_X1_has lau D cI cB h hh hq hl hw n (((k : Nat) : Int)) (by omega) (by omega)) gX1_hour_X1_has rfl rfl rfl (by decide +kernel) ⟨Nat.le_of_ble_eq_true rfl, Nat.le_of_ble_eq_true rfl⟩ 0 rfl rfl [0] rfl rfl (Nat.le_of_ble_eq_true rfl) rfl dX1_hour_2 ?_
  refine jw_ifb_eq (pc := 5) (tgt := 17) C dX1_hour_5 (by decide) (fun c_5 => ?_) (fun c_5 => ?_)
  · exfalso; omega
  · -- 5 f
    refine jw_aload_n (pc := 8) C dX1_hour_8 0 rfl ?_
    refine jw_get (pc := 9) C hi_X1_hour_X1 0 rfl rfl 1 (by decide) fl_X1_hour_15 rfl rfl dX1_hour_9 ?_
    refine jw_iload_n (pc := 12) C dX1_hour_12 1 rfl ?_
    refine jw_iald (pc := 13) C (f := HO) 1 k rfl rfl (by omega) (by decide) dX1_hour_13 ?_
    refine jw_goto (pc := 14) (tgt := 18) C dX1_hour_14 (by decide) ?_
    exact jw_iretR (pc := 18) C E dX1_hour_18 rfl
theorem fl_X1_loud_18 : Cond.fieldLink RX1 18 "GongTide$Heard" "louds" "[I" ∈ wsX1_loud := by decide +kernel
theorem hi_X1_loud_X1 : ∀ w ∈ wsX10, w ∈ wsX1_loud := fun w h => List.mem_cons_of_mem _ (List.mem_append_right _ h)
def rmX1_loud : Room := { frames := 2, cells := 0, slots := 0, locals := 43 }
set_option maxHeartbeats 4000000 in
set_option maxRecDepth 100000 in
theorem con_X1_loud (lau : Launch) (D : va_G) (cI cB : ClassId) (h : Nat) (hh : Nat) (hq : Nat) (hl : Nat) (hw : Nat) (n : Nat) (HL : Nat → Int) (k : Nat) (h2 : n ≤ 6) (hk : k < n) : jMR lau yX1_loud wsX1_loud rmX1_loud D cI cB [.ref h, .int (jI ((k : Nat) : Int))] [oH h hh hq hl hw ((n : Nat) : Int), aI cI hl 6 HL] (.int (jI (HL k))) := by
  refine jMR.of (own := RX1) (cc := cX1_loud) (maxL := 2) (ret := (some .int)) rfl (by decide) rfl (Nat.le_of_ble_eq_true rfl) ?_
  intro X C E
  refine jw_lv (lv' := [(0, .ref h), (1, .int (jI ((k : Nat) : Int)))]) [0, 1] rfl ?_
  refine jw_aload_n (pc := 0) C dX1_loud_0 0 rfl ?_
  refine jw_iload_n (pc := 1) C dX1_loud_1 1 rfl ?_
  refine jw_callRV (pc := 2) C [.int (jI ((((k : Nat) : Int))))] [] 1 (con_X1_has lau D cI cB h hh hq hl hw n (((k : Nat) : Int)) (by omega) (by omega)) gX1_loud_X1_has rfl rfl rfl (by decide +kernel) ⟨Nat.le_of_ble_eq_true rfl, Nat.le_of_ble_eq_true rfl⟩ 0 rfl rfl [0] rfl rfl (Nat.le_of_ble_eq_true rfl) rfl dX1_loud_2 ?_
  refine jw_ifb_eq (pc := 5) (tgt := 17) C dX1_loud_5 (by decide) (fun c_5 => ?_) (fun c_5 => ?_)
  · exfalso; omega
  · -- 5 f
    refine jw_aload_n (pc := 8) C dX1_loud_8 0 rfl ?_
    refine jw_get (pc := 9) C hi_X1_loud_X1 0 rfl rfl 2 (by decide) fl_X1_loud_18 rfl rfl dX1_loud_9 ?_
    refine jw_iload_n (pc := 12) C dX1_loud_12 1 rfl ?_
    refine jw_iald (pc := 13) C (f := HL) 1 k rfl rfl (by omega) (by decide) dX1_loud_13 ?_
    refine jw_goto (pc := 14) (tgt := 18) C dX1_loud_14 (by decide) ?_
    exact jw_iretR (pc := 18) C E dX1_loud_18 rfl
theorem fl_X1_how_21 : Cond.fieldLink RX1 21 "GongTide$Heard" "hows" "[I" ∈ wsX1_how := by decide +kernel
theorem hi_X1_how_X1 : ∀ w ∈ wsX10, w ∈ wsX1_how := fun w h => List.mem_cons_of_mem _ (List.mem_append_right _ h)
def rmX1_how : Room := { frames := 2, cells := 0, slots := 0, locals := 43 }
set_option maxHeartbeats 4000000 in
set_option maxRecDepth 100000 in
theorem con_X1_how (lau : Launch) (D : va_G) (cI cB : ClassId) (h : Nat) (hh : Nat) (hq : Nat) (hl : Nat) (hw : Nat) (n : Nat) (HW : Nat → Int) (k : Nat) (h2 : n ≤ 6) (hk : k < n) : jMR lau yX1_how wsX1_how rmX1_how D cI cB [.ref h, .int (jI ((k : Nat) : Int))] [oH h hh hq hl hw ((n : Nat) : Int), aI cI hw 6 HW] (.int (jI (HW k))) := by
  refine jMR.of (own := RX1) (cc := cX1_how) (maxL := 2) (ret := (some .int)) rfl (by decide) rfl (Nat.le_of_ble_eq_true rfl) ?_
  intro X C E
  refine jw_lv (lv' := [(0, .ref h), (1, .int (jI ((k : Nat) : Int)))]) [0, 1] rfl ?_
  refine jw_aload_n (pc := 0) C dX1_how_0 0 rfl ?_
  refine jw_iload_n (pc := 1) C dX1_how_1 1 rfl ?_
  refine jw_callRV (pc := 2) C [.int (jI ((((k : Nat) : Int))))] [] 1 (con_X1_has lau D cI cB h hh hq hl hw n (((k : Nat) : Int)) (by omega) (by omega)) gX1_how_X1_has rfl rfl rfl (by decide +kernel) ⟨Nat.le_of_ble_eq_true rfl, Nat.le_of_ble_eq_true rfl⟩ 0 rfl rfl [0] rfl rfl (Nat.le_of_ble_eq_true rfl) rfl dX1_how_2 ?_
  refine jw_ifb_eq (pc := 5) (tgt := 17) C dX1_how_5 (by decide) (fun c_5 => ?_) (fun c_5 => ?_)
  · exfalso; omega
  · -- 5 f
    refine jw_aload_n (pc := 8) C dX1_how_8 0 rfl ?_
    refine jw_get (pc := 9) C hi_X1_how_X1 0 rfl rfl 3 (by decide) fl_X1_how_21 rfl rfl dX1_how_9 ?_
    refine jw_iload_n (pc := 12) C dX1_how_12 1 rfl ?_
    refine jw_iald (pc := 13) C (f := HW) 1 k rfl rfl (by omega) (by decide) dX1_how_13 ?_
    refine jw_goto (pc := 14) (tgt := 18) C dX1_how_14 (by decide) ?_
    exact jw_iretR (pc := 18) C E dX1_how_18 rfl
theorem fl_X1_lastLoud_24 : Cond.fieldLink RX1 24 "GongTide$Heard" "size" "I" ∈ wsX1_lastLoud := by decide +kernel
theorem hi_X1_lastLoud_X1 : ∀ w ∈ wsX10, w ∈ wsX1_lastLoud := fun w h => List.mem_cons_of_mem _ (List.mem_append_right _ h)
def rmX1_lastLoud : Room := { frames := 3, cells := 0, slots := 0, locals := 64 }
set_option maxHeartbeats 4000000 in
set_option maxRecDepth 100000 in
theorem con_X1_lastLoud (lau : Launch) (D : va_G) (cI cB : ClassId) (h : Nat) (hh : Nat) (hq : Nat) (hl : Nat) (hw : Nat) (n : Nat) (HL : Nat → Int) (h2 : n ≤ 6) (h0 : 0 < n) : jMR lau yX1_lastLoud wsX1_lastLoud rmX1_lastLoud D cI cB [.ref h] [oH h hh hq hl hw ((n : Nat) : Int), aI cI hl 6 HL] (.int (jI (HL (n - 1)))) := by
  refine jMR.of (own := RX1) (cc := cX1_lastLoud) (maxL := 1) (ret := (some .int)) rfl (by decide) rfl (Nat.le_of_ble_eq_true rfl) ?_
  intro X C E
  refine jw_lv (lv' := [(0, .ref h)]) [0] rfl ?_
  refine jw_aload_n (pc := 0) C dX1_lastLoud_0 0 rfl ?_
  refine jw_aload_n (pc := 1) C dX1_lastLoud_1 0 rfl ?_
  refine jw_get (pc := 2) C hi_X1_lastLoud_X1 0 rfl rfl 4 (by decide) fl_X1_lastLoud_24 rfl rfl dX1_lastLoud_2 ?_
  refine jw_iconst (pc := 5) C dX1_lastLoud_5 ?_
  refine jw_isub (pc := 6) (z := ((n - 1 : Nat) : Int)) C dX1_lastLoud_6 (by omega) ?_
  refine jw_callRV (pc := 7) C [.int (jI (((n - 1) : Nat) : Int))] [] 1 (con_X1_loud lau D cI cB h hh hq hl hw n HL (n - 1) (by omega) (by omega)) gX1_lastLoud_X1_loud rfl rfl rfl (by decide +kernel) ⟨Nat.le_of_ble_eq_true rfl, Nat.le_of_ble_eq_true rfl⟩ 0 rfl rfl [0, 1] rfl rfl (Nat.le_of_ble_eq_true rfl) rfl dX1_lastLoud_7 ?_
  exact jw_iretR (pc := 10) C E dX1_lastLoud_10 rfl
theorem fl_X1_add_9 : Cond.fieldLink RX1 9 "GongTide$Heard" "houses" "[I" ∈ wsX1_add := by decide +kernel
theorem fl_X1_add_15 : Cond.fieldLink RX1 15 "GongTide$Heard" "hours" "[I" ∈ wsX1_add := by decide +kernel
theorem fl_X1_add_18 : Cond.fieldLink RX1 18 "GongTide$Heard" "louds" "[I" ∈ wsX1_add := by decide +kernel
theorem fl_X1_add_21 : Cond.fieldLink RX1 21 "GongTide$Heard" "hows" "[I" ∈ wsX1_add := by decide +kernel
theorem fl_X1_add_24 : Cond.fieldLink RX1 24 "GongTide$Heard" "size" "I" ∈ wsX1_add := by decide +kernel
theorem hi_X1_add_X1 : ∀ w ∈ wsX10, w ∈ wsX1_add := fun w h => List.mem_cons_of_mem _ (List.mem_append_right _ h)
def rmX1_add : Room := { frames := 0, cells := 0, slots := 0, locals := 0 }
set_option maxHeartbeats 4000000 in
set_option maxRecDepth 100000 in
theorem con_X1_add (lau : Launch) (D : va_G) (cI cB : ClassId) (h : Nat) (hh : Nat) (hq : Nat) (hl : Nat) (hw : Nat) (n : Nat) (HH : Nat → Int) (HO : Nat → Int) (HL : Nat → Int) (HW : Nat → Int) (a1 : Int) (a2 : Int) (a3 : Int) (a4 : Int) (h2 : n < 6) : jMW (S := Unit) lau yX1_add wsX1_add rmX1_add D cI cB [.ref h, .int (jI a1), .int (jI a2), .int (jI a3), .int (jI a4)] [oH h hh hq hl hw ((n : Nat) : Int), aI cI hh 6 HH, aI cI hq 6 HO, aI cI hl 6 HL, aI cI hw 6 HW] (fun u => some (.int (jI 1))) (fun u => True) (fun u => [oH h hh hq hl hw ((n + 1 : Nat) : Int), aI cI hh 6 (va_up HH n a1), aI cI hq 6 (va_up HO n a2), aI cI hl 6 (va_up HL n a3), aI cI hw 6 (va_up HW n a4)]) := by
  refine jMW.of (own := RX1) (cc := cX1_add) (maxL := 5) (ret := (some .boolean)) rfl (by decide) rfl (Nat.le_of_ble_eq_true rfl) ?_
  intro X C E
  refine jw_lv (lv' := [(0, .ref h), (1, .int (jI a1)), (2, .int (jI a2)), (3, .int (jI a3)), (4, .int (jI a4))]) [0, 1, 2, 3, 4] rfl ?_
  refine jw_aload_n (pc := 0) C dX1_add_0 0 rfl ?_
  refine jw_get (pc := 1) C hi_X1_add_X1 0 rfl rfl 4 (by decide) fl_X1_add_24 rfl rfl dX1_add_1 ?_
  refine jw_bipush (pc := 4) C dX1_add_4 (by decide +kernel) ?_
  refine jw_icmp_lt (pc := 6) (tgt := 11) C dX1_add_6 (by decide) (by omega) (by omega) (fun c_6 => ?_) (fun c_6 => ?_)
  · -- 6 t
    refine jw_aload_n (pc := 11) C dX1_add_11 0 rfl ?_
    refine jw_get (pc := 12) C hi_X1_add_X1 0 rfl rfl 0 (by decide) fl_X1_add_9 rfl rfl dX1_add_12 ?_
    refine jw_aload_n (pc := 15) C dX1_add_15 0 rfl ?_
    refine jw_get (pc := 16) C hi_X1_add_X1 0 rfl rfl 4 (by decide) fl_X1_add_24 rfl rfl dX1_add_16 ?_
    refine jw_iload_n (pc := 19) C dX1_add_19 1 rfl ?_
    refine jw_iast (pc := 20) C (f := HH) 1 n rfl rfl (by omega) (by decide) (ws' := [oH h hh hq hl hw ((n : Nat) : Int), aI cI hh 6 (va_up HH n a1), aI cI hq 6 HO, aI cI hl 6 HL, aI cI hw 6 HW]) rfl dX1_add_20 ?_
    refine jw_aload_n (pc := 21) C dX1_add_21 0 rfl ?_
    refine jw_get (pc := 22) C hi_X1_add_X1 0 rfl rfl 1 (by decide) fl_X1_add_15 rfl rfl dX1_add_22 ?_
    refine jw_aload_n (pc := 25) C dX1_add_25 0 rfl ?_
    refine jw_get (pc := 26) C hi_X1_add_X1 0 rfl rfl 4 (by decide) fl_X1_add_24 rfl rfl dX1_add_26 ?_
    refine jw_iload_n (pc := 29) C dX1_add_29 2 rfl ?_
    refine jw_iast (pc := 30) C (f := HO) 2 n rfl rfl (by omega) (by decide) (ws' := [oH h hh hq hl hw ((n : Nat) : Int), aI cI hh 6 (va_up HH n a1), aI cI hq 6 (va_up HO n a2), aI cI hl 6 HL, aI cI hw 6 HW]) rfl dX1_add_30 ?_
    refine jw_aload_n (pc := 31) C dX1_add_31 0 rfl ?_
    refine jw_get (pc := 32) C hi_X1_add_X1 0 rfl rfl 2 (by decide) fl_X1_add_18 rfl rfl dX1_add_32 ?_
    refine jw_aload_n (pc := 35) C dX1_add_35 0 rfl ?_
    refine jw_get (pc := 36) C hi_X1_add_X1 0 rfl rfl 4 (by decide) fl_X1_add_24 rfl rfl dX1_add_36 ?_
    refine jw_iload_n (pc := 39) C dX1_add_39 3 rfl ?_
    refine jw_iast (pc := 40) C (f := HL) 3 n rfl rfl (by omega) (by decide) (ws' := [oH h hh hq hl hw ((n : Nat) : Int), aI cI hh 6 (va_up HH n a1), aI cI hq 6 (va_up HO n a2), aI cI hl 6 (va_up HL n a3), aI cI hw 6 HW]) rfl dX1_add_40 ?_
    refine jw_aload_n (pc := 41) C dX1_add_41 0 rfl ?_
    refine jw_get (pc := 42) C hi_X1_add_X1 0 rfl rfl 3 (by decide) fl_X1_add_21 rfl rfl dX1_add_42 ?_
    refine jw_aload_n (pc := 45) C dX1_add_45 0 rfl ?_
    refine jw_get (pc := 46) C hi_X1_add_X1 0 rfl rfl 4 (by decide) fl_X1_add_24 rfl rfl dX1_add_46 ?_
    refine jw_iload (pc := 49) C dX1_add_49 4 rfl ?_
    refine jw_iast (pc := 51) C (f := HW) 4 n rfl rfl (by omega) (by decide) (ws' := [oH h hh hq hl hw ((n : Nat) : Int), aI cI hh 6 (va_up HH n a1), aI cI hq 6 (va_up HO n a2), aI cI hl 6 (va_up HL n a3), aI cI hw 6 (va_up HW n a4)]) rfl dX1_add_51 ?_
    refine jw_aload_n (pc := 52) C dX1_add_52 0 rfl ?_
    refine jw_dup (pc := 53) C dX1_add_53 rfl ?_
    refine jw_get (pc := 54) C hi_X1_add_X1 0 rfl rfl 4 (by decide) fl_X1_add_24 rfl rfl dX1_add_54 ?_
    refine jw_iconst (pc := 57) C dX1_add_57 ?_
    refine jw_iadd (pc := 58) (z := ((n + 1 : Nat) : Int)) C dX1_add_58 (by omega) ?_
    refine jw_put (pc := 59) (ty := .int) (ws' := [oH h hh hq hl hw ((n + 1 : Nat) : Int), aI cI hh 6 (va_up HH n a1), aI cI hq 6 (va_up HO n a2), aI cI hl 6 (va_up HL n a3), aI cI hw 6 (va_up HW n a4)]) C hi_X1_add_X1 tyX1 tyX1_ok nmX1 0 rfl rfl 4 (by decide) fl_X1_add_24 rfl rfl (by decide +kernel) rfl rfl (Nat.le_of_ble_eq_true rfl) rfl dX1_add_59 ?_
    refine jw_iconst (pc := 62) C dX1_add_62 ?_
    exact jw_zretW (pc := 63) C E dX1_add_63 (()) rfl trivial rfl rfl
  · exfalso; omega
set_option maxHeartbeats 4000000 in
set_option maxRecDepth 100000 in
theorem con_X1_addF (lau : Launch) (D : va_G) (cI cB : ClassId) (h : Nat) (hh : Nat) (hq : Nat) (hl : Nat) (hw : Nat) (n : Nat) (HH : Nat → Int) (HO : Nat → Int) (HL : Nat → Int) (HW : Nat → Int) (a1 : Int) (a2 : Int) (a3 : Int) (a4 : Int) (h2 : n = 6) : jMW (S := Unit) lau yX1_add wsX1_add rmX1_add D cI cB [.ref h, .int (jI a1), .int (jI a2), .int (jI a3), .int (jI a4)] [oH h hh hq hl hw ((n : Nat) : Int), aI cI hh 6 HH, aI cI hq 6 HO, aI cI hl 6 HL, aI cI hw 6 HW] (fun u => some (.int (jI 0))) (fun u => True) (fun u => [oH h hh hq hl hw ((n : Nat) : Int), aI cI hh 6 HH, aI cI hq 6 HO, aI cI hl 6 HL, aI cI hw 6 HW]) := by
  refine jMW.of (own := RX1) (cc := cX1_add) (maxL := 5) (ret := (some .boolean)) rfl (by decide) rfl (Nat.le_of_ble_eq_true rfl) ?_
  intro X C E
  refine jw_lv (lv' := [(0, .ref h), (1, .int (jI a1)), (2, .int (jI a2)), (3, .int (jI a3)), (4, .int (jI a4))]) [0, 1, 2, 3, 4] rfl ?_
  refine jw_aload_n (pc := 0) C dX1_add_0 0 rfl ?_
  refine jw_get (pc := 1) C hi_X1_add_X1 0 rfl rfl 4 (by decide) fl_X1_add_24 rfl rfl dX1_add_1 ?_
  refine jw_bipush (pc := 4) C dX1_add_4 (by decide +kernel) ?_
  refine jw_icmp_lt (pc := 6) (tgt := 11) C dX1_add_6 (by decide) (by omega) (by omega) (fun c_6 => ?_) (fun c_6 => ?_)
  · exfalso; omega
  · -- 6 f
    refine jw_iconst (pc := 9) C dX1_add_9 ?_
    exact jw_zretW (pc := 10) C E dX1_add_10 (()) rfl trivial rfl rfl
theorem fl_X1_copyFrom_9 : Cond.fieldLink RX1 9 "GongTide$Heard" "houses" "[I" ∈ wsX1_copyFrom := by decide +kernel
theorem fl_X1_copyFrom_15 : Cond.fieldLink RX1 15 "GongTide$Heard" "hours" "[I" ∈ wsX1_copyFrom := by decide +kernel
theorem fl_X1_copyFrom_18 : Cond.fieldLink RX1 18 "GongTide$Heard" "louds" "[I" ∈ wsX1_copyFrom := by decide +kernel
theorem fl_X1_copyFrom_21 : Cond.fieldLink RX1 21 "GongTide$Heard" "hows" "[I" ∈ wsX1_copyFrom := by decide +kernel
theorem fl_X1_copyFrom_24 : Cond.fieldLink RX1 24 "GongTide$Heard" "size" "I" ∈ wsX1_copyFrom := by decide +kernel
theorem hi_X1_copyFrom_X1 : ∀ w ∈ wsX10, w ∈ wsX1_copyFrom := fun w h => List.mem_cons_of_mem _ (List.mem_append_right _ h)
def rmX1_copyFrom : Room := { frames := 0, cells := 0, slots := 0, locals := 0 }
set_option maxHeartbeats 4000000 in
set_option maxRecDepth 100000 in
theorem con_X1_copyFrom (lau : Launch) (D : va_G) (cI cB : ClassId) (h : Nat) (hh : Nat) (hq : Nat) (hl : Nat) (hw : Nat) (n : Int) (HH : Nat → Int) (HO : Nat → Int) (HL : Nat → Int) (HW : Nat → Int) (h2 : Nat) (hh2 : Nat) (hq2 : Nat) (hl2 : Nat) (hw2 : Nat) (n2 : Nat) (HH2 : Nat → Int) (HO2 : Nat → Int) (HL2 : Nat → Int) (HW2 : Nat → Int)  : jMW (S := Unit) lau yX1_copyFrom wsX1_copyFrom rmX1_copyFrom D cI cB [.ref h, .ref h2] [oH h hh hq hl hw n, aI cI hh 6 HH, aI cI hq 6 HO, aI cI hl 6 HL, aI cI hw 6 HW, oH h2 hh2 hq2 hl2 hw2 ((n2 : Nat) : Int), aI cI hh2 6 HH2, aI cI hq2 6 HO2, aI cI hl2 6 HL2, aI cI hw2 6 HW2] (fun u => none) (fun u => True) (fun u => [oH h hh hq hl hw ((n2 : Nat) : Int), aI cI hh 6 HH2, aI cI hq 6 HO2, aI cI hl 6 HL2, aI cI hw 6 HW2, oH h2 hh2 hq2 hl2 hw2 ((n2 : Nat) : Int), aI cI hh2 6 HH2, aI cI hq2 6 HO2, aI cI hl2 6 HL2, aI cI hw2 6 HW2]) := by
  refine jMW.of (own := RX1) (cc := cX1_copyFrom) (maxL := 3) (ret := none) rfl (by decide) rfl (Nat.le_of_ble_eq_true rfl) ?_
  intro X C E
  refine jw_lv (lv' := [(0, .ref h), (1, .ref h2)]) [0, 1] rfl ?_
  refine jw_aload_n (pc := 0) C dX1_copyFrom_0 0 rfl ?_
  refine jw_aload_n (pc := 1) C dX1_copyFrom_1 1 rfl ?_
  refine jw_get (pc := 2) C hi_X1_copyFrom_X1 5 rfl rfl 4 (by decide) fl_X1_copyFrom_24 rfl rfl dX1_copyFrom_2 ?_
  refine jw_put (pc := 5) (ty := .int) (ws' := [oH h hh hq hl hw ((n2 : Nat) : Int), aI cI hh 6 HH, aI cI hq 6 HO, aI cI hl 6 HL, aI cI hw 6 HW, oH h2 hh2 hq2 hl2 hw2 ((n2 : Nat) : Int), aI cI hh2 6 HH2, aI cI hq2 6 HO2, aI cI hl2 6 HL2, aI cI hw2 6 HW2]) C hi_X1_copyFrom_X1 tyX1 tyX1_ok nmX1 0 rfl rfl 4 (by decide) fl_X1_copyFrom_24 rfl rfl (by decide +kernel) rfl rfl (Nat.le_of_ble_eq_true rfl) rfl dX1_copyFrom_5 ?_
  refine jw_iconst (pc := 8) C dX1_copyFrom_8 ?_
  refine jw_istore_n (pc := 9) (lv' := [(2, .int (jI 0)), (0, .ref h), (1, .ref h2)]) C dX1_copyFrom_9 (by decide) rfl ?_
  have lp_10_1 : ∀ (fu : Nat) (i : Nat) (c0 : Nat → Int) (c1 : Nat → Int) (c2 : Nat → Int) (c3 : Nat → Int), (i ≤ 6) → (∀ j, j < i → c0 j = HH2 j) → (∀ j, j < i → c1 j = HO2 j) → (∀ j, j < i → c2 j = HL2 j) → (∀ j, j < i → c3 j = HW2 j) → 6 - i < fu → jW X 10 [(0, .ref h), (1, .ref h2), (2, .int (jI ((i : Nat) : Int)))] [] [oH h hh hq hl hw ((n2 : Nat) : Int), aI cI hh 6 c0, aI cI hq 6 c1, aI cI hl 6 c2, aI cI hw 6 c3, oH h2 hh2 hq2 hl2 hw2 ((n2 : Nat) : Int), aI cI hh2 6 HH2, aI cI hq2 6 HO2, aI cI hl2 6 HL2, aI cI hw2 6 HW2] := by
    intro fu
    induction fu with
    | zero => intro i c0 c1 c2 c3 hi hc0 hc1 hc2 hc3 hm; exact absurd hm (Nat.not_lt_zero _)
    | succ fu ih_2 =>
      intro i c0 c1 c2 c3 hi hc0 hc1 hc2 hc3 hm
      refine jw_iload_n (pc := 10) C dX1_copyFrom_10 2 rfl ?_
      refine jw_bipush (pc := 11) C dX1_copyFrom_11 (by decide +kernel) ?_
      refine jw_icmp_ge (pc := 13) (tgt := 70) C dX1_copyFrom_13 (by decide) (by omega) (by omega) (fun c_13 => ?_) (fun c_13 => ?_)
      · -- 13 t
        refine jw_arr (f := c0) (g := HH2) (ws' := [oH h hh hq hl hw ((n2 : Nat) : Int), aI cI hh 6 HH2, aI cI hq 6 c1, aI cI hl 6 c2, aI cI hw 6 c3, oH h2 hh2 hq2 hl2 hw2 ((n2 : Nat) : Int), aI cI hh2 6 HH2, aI cI hq2 6 HO2, aI cI hl2 6 HL2, aI cI hw2 6 HW2]) 1 rfl (by exact fun j hj => hc0 j (by omega)) rfl ?_
        refine jw_arr (f := c1) (g := HO2) (ws' := [oH h hh hq hl hw ((n2 : Nat) : Int), aI cI hh 6 HH2, aI cI hq 6 HO2, aI cI hl 6 c2, aI cI hw 6 c3, oH h2 hh2 hq2 hl2 hw2 ((n2 : Nat) : Int), aI cI hh2 6 HH2, aI cI hq2 6 HO2, aI cI hl2 6 HL2, aI cI hw2 6 HW2]) 2 rfl (by exact fun j hj => hc1 j (by omega)) rfl ?_
        refine jw_arr (f := c2) (g := HL2) (ws' := [oH h hh hq hl hw ((n2 : Nat) : Int), aI cI hh 6 HH2, aI cI hq 6 HO2, aI cI hl 6 HL2, aI cI hw 6 c3, oH h2 hh2 hq2 hl2 hw2 ((n2 : Nat) : Int), aI cI hh2 6 HH2, aI cI hq2 6 HO2, aI cI hl2 6 HL2, aI cI hw2 6 HW2]) 3 rfl (by exact fun j hj => hc2 j (by omega)) rfl ?_
        refine jw_arr (f := c3) (g := HW2) (ws' := [oH h hh hq hl hw ((n2 : Nat) : Int), aI cI hh 6 HH2, aI cI hq 6 HO2, aI cI hl 6 HL2, aI cI hw 6 HW2, oH h2 hh2 hq2 hl2 hw2 ((n2 : Nat) : Int), aI cI hh2 6 HH2, aI cI hq2 6 HO2, aI cI hl2 6 HL2, aI cI hw2 6 HW2]) 4 rfl (by exact fun j hj => hc3 j (by omega)) rfl ?_
        exact jw_vretW (pc := 70) C E dX1_copyFrom_70 (()) rfl trivial rfl
      · -- 13 f
        refine jw_aload_n (pc := 16) C dX1_copyFrom_16 0 rfl ?_
        refine jw_get (pc := 17) C hi_X1_copyFrom_X1 0 rfl rfl 0 (by decide) fl_X1_copyFrom_9 rfl rfl dX1_copyFrom_17 ?_
        refine jw_iload_n (pc := 20) C dX1_copyFrom_20 2 rfl ?_
        refine jw_aload_n (pc := 21) C dX1_copyFrom_21 1 rfl ?_
        refine jw_get (pc := 22) C hi_X1_copyFrom_X1 5 rfl rfl 0 (by decide) fl_X1_copyFrom_9 rfl rfl dX1_copyFrom_22 ?_
        refine jw_iload_n (pc := 25) C dX1_copyFrom_25 2 rfl ?_
        refine jw_iald (pc := 26) C (f := HH2) 6 i rfl rfl (by omega) (by decide) dX1_copyFrom_26 ?_
        refine jw_iast (pc := 27) C (f := c0) 1 i rfl rfl (by omega) (by decide) (ws' := [oH h hh hq hl hw ((n2 : Nat) : Int), aI cI hh 6 (va_up c0 i (HH2 i)), aI cI hq 6 c1, aI cI hl 6 c2, aI cI hw 6 c3, oH h2 hh2 hq2 hl2 hw2 ((n2 : Nat) : Int), aI cI hh2 6 HH2, aI cI hq2 6 HO2, aI cI hl2 6 HL2, aI cI hw2 6 HW2]) rfl dX1_copyFrom_27 ?_
        refine jw_aload_n (pc := 28) C dX1_copyFrom_28 0 rfl ?_
        refine jw_get (pc := 29) C hi_X1_copyFrom_X1 0 rfl rfl 1 (by decide) fl_X1_copyFrom_15 rfl rfl dX1_copyFrom_29 ?_
        refine jw_iload_n (pc := 32) C dX1_copyFrom_32 2 rfl ?_
        refine jw_aload_n (pc := 33) C dX1_copyFrom_33 1 rfl ?_
        refine jw_get (pc := 34) C hi_X1_copyFrom_X1 5 rfl rfl 1 (by decide) fl_X1_copyFrom_15 rfl rfl dX1_copyFrom_34 ?_
        refine jw_iload_n (pc := 37) C dX1_copyFrom_37 2 rfl ?_
        refine jw_iald (pc := 38) C (f := HO2) 7 i rfl rfl (by omega) (by decide) dX1_copyFrom_38 ?_
        refine jw_iast (pc := 39) C (f := c1) 2 i rfl rfl (by omega) (by decide) (ws' := [oH h hh hq hl hw ((n2 : Nat) : Int), aI cI hh 6 (va_up c0 i (HH2 i)), aI cI hq 6 (va_up c1 i (HO2 i)), aI cI hl 6 c2, aI cI hw 6 c3, oH h2 hh2 hq2 hl2 hw2 ((n2 : Nat) : Int), aI cI hh2 6 HH2, aI cI hq2 6 HO2, aI cI hl2 6 HL2, aI cI hw2 6 HW2]) rfl dX1_copyFrom_39 ?_
        refine jw_aload_n (pc := 40) C dX1_copyFrom_40 0 rfl ?_
        refine jw_get (pc := 41) C hi_X1_copyFrom_X1 0 rfl rfl 2 (by decide) fl_X1_copyFrom_18 rfl rfl dX1_copyFrom_41 ?_
        refine jw_iload_n (pc := 44) C dX1_copyFrom_44 2 rfl ?_
        refine jw_aload_n (pc := 45) C dX1_copyFrom_45 1 rfl ?_
        refine jw_get (pc := 46) C hi_X1_copyFrom_X1 5 rfl rfl 2 (by decide) fl_X1_copyFrom_18 rfl rfl dX1_copyFrom_46 ?_
        refine jw_iload_n (pc := 49) C dX1_copyFrom_49 2 rfl ?_
        refine jw_iald (pc := 50) C (f := HL2) 8 i rfl rfl (by omega) (by decide) dX1_copyFrom_50 ?_
        refine jw_iast (pc := 51) C (f := c2) 3 i rfl rfl (by omega) (by decide) (ws' := [oH h hh hq hl hw ((n2 : Nat) : Int), aI cI hh 6 (va_up c0 i (HH2 i)), aI cI hq 6 (va_up c1 i (HO2 i)), aI cI hl 6 (va_up c2 i (HL2 i)), aI cI hw 6 c3, oH h2 hh2 hq2 hl2 hw2 ((n2 : Nat) : Int), aI cI hh2 6 HH2, aI cI hq2 6 HO2, aI cI hl2 6 HL2, aI cI hw2 6 HW2]) rfl dX1_copyFrom_51 ?_
        refine jw_aload_n (pc := 52) C dX1_copyFrom_52 0 rfl ?_
        refine jw_get (pc := 53) C hi_X1_copyFrom_X1 0 rfl rfl 3 (by decide) fl_X1_copyFrom_21 rfl rfl dX1_copyFrom_53 ?_
        refine jw_iload_n (pc := 56) C dX1_copyFrom_56 2 rfl ?_
        refine jw_aload_n (pc := 57) C dX1_copyFrom_57 1 rfl ?_
        refine jw_get (pc := 58) C hi_X1_copyFrom_X1 5 rfl rfl 3 (by decide) fl_X1_copyFrom_21 rfl rfl dX1_copyFrom_58 ?_
        refine jw_iload_n (pc := 61) C dX1_copyFrom_61 2 rfl ?_
        refine jw_iald (pc := 62) C (f := HW2) 9 i rfl rfl (by omega) (by decide) dX1_copyFrom_62 ?_
        refine jw_iast (pc := 63) C (f := c3) 4 i rfl rfl (by omega) (by decide) (ws' := [oH h hh hq hl hw ((n2 : Nat) : Int), aI cI hh 6 (va_up c0 i (HH2 i)), aI cI hq 6 (va_up c1 i (HO2 i)), aI cI hl 6 (va_up c2 i (HL2 i)), aI cI hw 6 (va_up c3 i (HW2 i)), oH h2 hh2 hq2 hl2 hw2 ((n2 : Nat) : Int), aI cI hh2 6 HH2, aI cI hq2 6 HO2, aI cI hl2 6 HL2, aI cI hw2 6 HW2]) rfl dX1_copyFrom_63 ?_
        refine jw_iinc (pc := 64) (z := ((i + 1 : Nat) : Int)) (lv' := [(2, .int (jI ((i + 1 : Nat) : Int))), (0, .ref h), (1, .ref h2)]) C dX1_copyFrom_64 2 rfl (by omega) (by decide) rfl ?_
        refine jw_goto (pc := 67) (tgt := 10) C dX1_copyFrom_67 (by decide) ?_
        refine jw_lv [1, 2, 0] rfl ?_
        exact ih_2 (i + 1) (va_up c0 i (HH2 i)) (va_up c1 i (HO2 i)) (va_up c2 i (HL2 i)) (va_up c3 i (HW2 i)) (by omega) (sp_cpy_step (n := 6) rfl hc0) (sp_cpy_step (n := 6) rfl hc1) (sp_cpy_step (n := 6) rfl hc2) (sp_cpy_step (n := 6) rfl hc3) (by omega)
  refine jw_lv [1, 2, 0] rfl ?_
  exact lp_10_1 ((6 - 0) + 1) 0 HH HO HL HW (by omega) (fun j hj => absurd hj (Nat.not_lt_zero _)) (fun j hj => absurd hj (Nat.not_lt_zero _)) (fun j hj => absurd hj (Nat.not_lt_zero _)) (fun j hj => absurd hj (Nat.not_lt_zero _)) (Nat.lt_succ_self _)
theorem fl_X0_level_9 : Cond.fieldLink RX0 9 "GongTide$Affairs" "levels" "[I" ∈ wsX0_level := by decide +kernel
theorem hi_X0_level_X0 : ∀ w ∈ wsX00, w ∈ wsX0_level := fun w h => List.mem_cons_of_mem _ (List.mem_append_right _ h)
theorem ni_X0_level_X5_isWithin : Cond.initialized RX5 ∈ wsX0_level := by decide +kernel
theorem ns_X0_level_X5_isWithin : Cond.static yX5_isWithin ∈ wsX0_level := by decide +kernel
def rmX0_level : Room := { frames := 1, cells := 0, slots := 0, locals := 22 }
set_option maxHeartbeats 4000000 in
set_option maxRecDepth 100000 in
theorem con_X0_level (lau : Launch) (D : va_G) (cI cB : ClassId) (a : Nat) (le : Nat) (s : Nat) (h : Nat) (ch : Int) (V : Nat → Int) (k : Nat) (hk : k < 5) : jMR lau yX0_level wsX0_level rmX0_level D cI cB [.ref a, .int (jI ((k : Nat) : Int))] [oA a le s h ch, aI cI le 5 V] (.int (jI (V k))) := by
  refine jMR.of (own := RX0) (cc := cX0_level) (maxL := 2) (ret := (some .int)) rfl (by decide) rfl (Nat.le_of_ble_eq_true rfl) ?_
  intro X C E
  refine jw_lv (lv' := [(0, .ref a), (1, .int (jI ((k : Nat) : Int)))]) [0, 1] rfl ?_
  refine jw_iload_n (pc := 0) C dX0_level_0 1 rfl ?_
  refine jw_iconst (pc := 1) C dX0_level_1 ?_
  refine jw_iconst (pc := 2) C dX0_level_2 ?_
  refine jw_callRN (pc := 3) C [.int (jI ((((k : Nat) : Int)))), .int (jI 0), .int (jI 4)] [] 3 (con_X5_isWithin lau D cI cB (((k : Nat) : Int)) 0 4 (by omega) (by omega) (by omega)) gX0_level_X5_isWithin_n39 rfl rfl rfl (fun U h => h.2.2.2.2.2.2.2.2.1) ni_X0_level_X5_isWithin ns_X0_level_X5_isWithin (by decide +kernel) ⟨Nat.le_of_ble_eq_true rfl, Nat.le_of_ble_eq_true rfl⟩ [] rfl rfl (Nat.le_of_ble_eq_true rfl) rfl dX0_level_3 ?_
  refine jw_ifb_eq (pc := 6) (tgt := 18) C dX0_level_6 (by decide) (fun c_6 => ?_) (fun c_6 => ?_)
  · exfalso; omega
  · -- 6 f
    refine jw_aload_n (pc := 9) C dX0_level_9 0 rfl ?_
    refine jw_get (pc := 10) C hi_X0_level_X0 0 rfl rfl 0 (by decide) fl_X0_level_9 rfl rfl dX0_level_10 ?_
    refine jw_iload_n (pc := 13) C dX0_level_13 1 rfl ?_
    refine jw_iald (pc := 14) C (f := V) 1 k rfl rfl (by omega) (by decide) dX0_level_14 ?_
    refine jw_goto (pc := 15) (tgt := 19) C dX0_level_15 (by decide) ?_
    exact jw_iretR (pc := 19) C E dX0_level_19 rfl
theorem fl_X0_setLevel_9 : Cond.fieldLink RX0 9 "GongTide$Affairs" "levels" "[I" ∈ wsX0_setLevel := by decide +kernel
theorem hi_X0_setLevel_X0 : ∀ w ∈ wsX00, w ∈ wsX0_setLevel := fun w h => List.mem_cons_of_mem _ (List.mem_append_right _ h)
theorem ni_X0_setLevel_X5_isWithin : Cond.initialized RX5 ∈ wsX0_setLevel := by decide +kernel
theorem ns_X0_setLevel_X5_isWithin : Cond.static yX5_isWithin ∈ wsX0_setLevel := by decide +kernel
def rmX0_setLevel : Room := { frames := 1, cells := 0, slots := 0, locals := 22 }
set_option maxHeartbeats 4000000 in
set_option maxRecDepth 100000 in
theorem con_X0_setLevel (lau : Launch) (D : va_G) (cI cB : ClassId) (a : Nat) (le : Nat) (s : Nat) (h : Nat) (ch : Int) (V : Nat → Int) (k : Nat) (v : Int) (hk : k < 5) : jMW (S := Unit) lau yX0_setLevel wsX0_setLevel rmX0_setLevel D cI cB [.ref a, .int (jI ((k : Nat) : Int)), .int (jI v)] [oA a le s h ch, aI cI le 5 V] (fun u => none) (fun u => True) (fun u => [oA a le s h ch, aI cI le 5 (va_up V k v)]) := by
  refine jMW.of (own := RX0) (cc := cX0_setLevel) (maxL := 3) (ret := none) rfl (by decide) rfl (Nat.le_of_ble_eq_true rfl) ?_
  intro X C E
  refine jw_lv (lv' := [(0, .ref a), (1, .int (jI ((k : Nat) : Int))), (2, .int (jI v))]) [0, 1, 2] rfl ?_
  refine jw_iload_n (pc := 0) C dX0_setLevel_0 1 rfl ?_
  refine jw_iconst (pc := 1) C dX0_setLevel_1 ?_
  refine jw_iconst (pc := 2) C dX0_setLevel_2 ?_
  refine jw_callRN (pc := 3) C [.int (jI ((((k : Nat) : Int)))), .int (jI 0), .int (jI 4)] [] 3 (con_X5_isWithin lau D cI cB (((k : Nat) : Int)) 0 4 (by omega) (by omega) (by omega)) gX0_setLevel_X5_isWithin_n39 rfl rfl rfl (fun U h => h.2.2.2.2.2.2.2.2.1) ni_X0_setLevel_X5_isWithin ns_X0_setLevel_X5_isWithin (by decide +kernel) ⟨Nat.le_of_ble_eq_true rfl, Nat.le_of_ble_eq_true rfl⟩ [] rfl rfl (Nat.le_of_ble_eq_true rfl) rfl dX0_setLevel_3 ?_
  refine jw_ifb_eq (pc := 6) (tgt := 16) C dX0_setLevel_6 (by decide) (fun c_6 => ?_) (fun c_6 => ?_)
  · exfalso; omega
  · -- 6 f
    refine jw_aload_n (pc := 9) C dX0_setLevel_9 0 rfl ?_
    refine jw_get (pc := 10) C hi_X0_setLevel_X0 0 rfl rfl 0 (by decide) fl_X0_setLevel_9 rfl rfl dX0_setLevel_10 ?_
    refine jw_iload_n (pc := 13) C dX0_setLevel_13 1 rfl ?_
    refine jw_iload_n (pc := 14) C dX0_setLevel_14 2 rfl ?_
    refine jw_iast (pc := 15) C (f := V) 1 k rfl rfl (by omega) (by decide) (ws' := [oA a le s h ch, aI cI le 5 (va_up V k v)]) rfl dX0_setLevel_15 ?_
    exact jw_vretW (pc := 16) C E dX0_setLevel_16 (()) rfl trivial rfl
theorem fl_X0_clear_18 : Cond.fieldLink RX0 18 "GongTide$Affairs" "strokes" "LGongTide$Strokes;" ∈ wsX0_clear := by decide +kernel
theorem fl_X0_clear_25 : Cond.fieldLink RX0 25 "GongTide$Affairs" "heard" "LGongTide$Heard;" ∈ wsX0_clear := by decide +kernel
theorem fl_X0_clear_35 : Cond.fieldLink RX0 35 "GongTide$Affairs" "changes" "I" ∈ wsX0_clear := by decide +kernel
theorem hi_X0_clear_X0 : ∀ w ∈ wsX00, w ∈ wsX0_clear := fun w h => List.mem_cons_of_mem _ (List.mem_append_left _ (List.mem_append_left _ (List.mem_append_right _ h)))
def rmX0_clear : Room := { frames := 1, cells := 0, slots := 0, locals := 21 }
set_option maxHeartbeats 4000000 in
set_option maxRecDepth 100000 in
theorem con_X0_clear (lau : Launch) (D : va_G) (cI cB : ClassId) (a : Nat) (le : Nat) (s : Nat) (h : Nat) (ch : Int) (hr : Nat) (lo : Nat) (n : Nat) (hh : Nat) (hq : Nat) (hl : Nat) (hw : Nat) (m : Nat)  : jMW (S := Unit) lau yX0_clear wsX0_clear rmX0_clear D cI cB [.ref a] [oA a le s h ch, oS s hr lo ((n : Nat) : Int), oH h hh hq hl hw ((m : Nat) : Int)] (fun u => none) (fun u => True) (fun u => [oA a le s h 0, oS s hr lo ((0 : Nat) : Int), oH h hh hq hl hw ((0 : Nat) : Int)]) := by
  refine jMW.of (own := RX0) (cc := cX0_clear) (maxL := 1) (ret := none) rfl (by decide) rfl (Nat.le_of_ble_eq_true rfl) ?_
  intro X C E
  refine jw_lv (lv' := [(0, .ref a)]) [0] rfl ?_
  refine jw_aload_n (pc := 0) C dX0_clear_0 0 rfl ?_
  refine jw_get (pc := 1) C hi_X0_clear_X0 0 rfl rfl 1 (by decide) fl_X0_clear_18 rfl rfl dX0_clear_1 ?_
  refine jw_callWV (pc := 4) C [] [] 0 (con_X3_clear lau D cI cB s hr lo (((n : Nat) : Int)) ) gX0_clear_X3_clear rfl rfl rfl (by decide +kernel) ⟨Nat.le_of_ble_eq_true rfl, Nat.le_of_ble_eq_true rfl⟩ 1 rfl rfl [1] [0, 2] [0, 2, 1] (wr := [oA a le s h ch, oH h hh hq hl hw ((m : Nat) : Int)]) rfl rfl (by decide) (by decide) (fun _ => rfl) (wN := fun u_4_1 => [oA a le s h ch, oS s hr lo ((0 : Nat) : Int), oH h hh hq hl hw ((m : Nat) : Int)]) (fun _ => rfl) (stN := fun u_4_1 => []) (fun _ => rfl) rfl (Nat.le_of_ble_eq_true rfl) rfl dX0_clear_4 (fun u_4_1 hu_4_1 => ?_)
  refine jw_aload_n (pc := 7) C dX0_clear_7 0 rfl ?_
  refine jw_get (pc := 8) C hi_X0_clear_X0 0 rfl rfl 2 (by decide) fl_X0_clear_25 rfl rfl dX0_clear_8 ?_
  refine jw_callWV (pc := 11) C [] [] 0 (con_X1_clear lau D cI cB h hh hq hl hw m ) gX0_clear_X1_clear rfl rfl rfl (by decide +kernel) ⟨Nat.le_of_ble_eq_true rfl, Nat.le_of_ble_eq_true rfl⟩ 2 rfl rfl [2] [0, 1] [0, 1, 2] (wr := [oA a le s h ch, oS s hr lo ((0 : Nat) : Int)]) rfl rfl (by decide) (by decide) (fun _ => rfl) (wN := fun u_11_2 => [oA a le s h ch, oS s hr lo ((0 : Nat) : Int), oH h hh hq hl hw ((0 : Nat) : Int)]) (fun _ => rfl) (stN := fun u_11_2 => [.int (jI ((m : Nat) : Int))]) (fun _ => rfl) rfl (Nat.le_of_ble_eq_true rfl) rfl dX0_clear_11 (fun u_11_2 hu_11_2 => ?_)
  refine jw_pop (pc := 14) C dX0_clear_14 rfl ?_
  refine jw_aload_n (pc := 15) C dX0_clear_15 0 rfl ?_
  refine jw_iconst (pc := 16) C dX0_clear_16 ?_
  refine jw_put (pc := 17) (ty := .int) (ws' := [oA a le s h 0, oS s hr lo ((0 : Nat) : Int), oH h hh hq hl hw ((0 : Nat) : Int)]) C hi_X0_clear_X0 tyX0 tyX0_ok nmX0 0 rfl rfl 3 (by decide) fl_X0_clear_35 rfl rfl (by decide +kernel) rfl rfl (Nat.le_of_ble_eq_true rfl) rfl dX0_clear_17 ?_
  exact jw_vretW (pc := 20) C E dX0_clear_20 (()) rfl trivial rfl
theorem fl_X0_copyFrom_9 : Cond.fieldLink RX0 9 "GongTide$Affairs" "levels" "[I" ∈ wsX0_copyFrom := by decide +kernel
theorem fl_X0_copyFrom_18 : Cond.fieldLink RX0 18 "GongTide$Affairs" "strokes" "LGongTide$Strokes;" ∈ wsX0_copyFrom := by decide +kernel
theorem fl_X0_copyFrom_25 : Cond.fieldLink RX0 25 "GongTide$Affairs" "heard" "LGongTide$Heard;" ∈ wsX0_copyFrom := by decide +kernel
theorem fl_X0_copyFrom_35 : Cond.fieldLink RX0 35 "GongTide$Affairs" "changes" "I" ∈ wsX0_copyFrom := by decide +kernel
theorem hi_X0_copyFrom_X0 : ∀ w ∈ wsX00, w ∈ wsX0_copyFrom := fun w h => List.mem_cons_of_mem _ (List.mem_append_left _ (List.mem_append_left _ (List.mem_append_right _ h)))
def rmX0_copyFrom : Room := { frames := 1, cells := 0, slots := 0, locals := 22 }
set_option maxHeartbeats 4000000 in
set_option maxRecDepth 100000 in
theorem con_X0_copyFrom (lau : Launch) (D : va_G) (cI cB : ClassId) (a : Nat) (le : Nat) (s : Nat) (h : Nat) (hr : Nat) (lo : Nat) (hh : Nat) (hq : Nat) (hl : Nat) (hw : Nat) (ch : Int) (V : Nat → Int) (n : Nat) (SH : Nat → Int) (SL : Nat → Int) (m : Nat) (HH : Nat → Int) (HO : Nat → Int) (HL : Nat → Int) (HW : Nat → Int) (a2 : Nat) (le2 : Nat) (s2 : Nat) (h2 : Nat) (hr2 : Nat) (lo2 : Nat) (hh2 : Nat) (hq2 : Nat) (hl2 : Nat) (hw2 : Nat) (ch2 : Int) (V2 : Nat → Int) (n2 : Nat) (SH2 : Nat → Int) (SL2 : Nat → Int) (m2 : Nat) (HH2 : Nat → Int) (HO2 : Nat → Int) (HL2 : Nat → Int) (HW2 : Nat → Int)  : jMW (S := Unit) lau yX0_copyFrom wsX0_copyFrom rmX0_copyFrom D cI cB [.ref a, .ref a2] [oA a le s h ch, aI cI le 5 V, oS s hr lo ((n : Nat) : Int), aI cI hr 6 SH, aI cI lo 6 SL, oH h hh hq hl hw ((m : Nat) : Int), aI cI hh 6 HH, aI cI hq 6 HO, aI cI hl 6 HL, aI cI hw 6 HW, oA a2 le2 s2 h2 ch2, aI cI le2 5 V2, oS s2 hr2 lo2 ((n2 : Nat) : Int), aI cI hr2 6 SH2, aI cI lo2 6 SL2, oH h2 hh2 hq2 hl2 hw2 ((m2 : Nat) : Int), aI cI hh2 6 HH2, aI cI hq2 6 HO2, aI cI hl2 6 HL2, aI cI hw2 6 HW2] (fun u => none) (fun u => True) (fun u => [oA a le s h ch2, aI cI le 5 V2, oS s hr lo ((n2 : Nat) : Int), aI cI hr 6 SH2, aI cI lo 6 SL2, oH h hh hq hl hw ((m2 : Nat) : Int), aI cI hh 6 HH2, aI cI hq 6 HO2, aI cI hl 6 HL2, aI cI hw 6 HW2, oA a2 le2 s2 h2 ch2, aI cI le2 5 V2, oS s2 hr2 lo2 ((n2 : Nat) : Int), aI cI hr2 6 SH2, aI cI lo2 6 SL2, oH h2 hh2 hq2 hl2 hw2 ((m2 : Nat) : Int), aI cI hh2 6 HH2, aI cI hq2 6 HO2, aI cI hl2 6 HL2, aI cI hw2 6 HW2]) := by
  refine jMW.of (own := RX0) (cc := cX0_copyFrom) (maxL := 3) (ret := none) rfl (by decide) rfl (Nat.le_of_ble_eq_true rfl) ?_
  intro X C E
  refine jw_lv (lv' := [(0, .ref a), (1, .ref a2)]) [0, 1] rfl ?_
  refine jw_iconst (pc := 0) C dX0_copyFrom_0 ?_
  refine jw_istore_n (pc := 1) (lv' := [(2, .int (jI 0)), (0, .ref a), (1, .ref a2)]) C dX0_copyFrom_1 (by decide) rfl ?_
  have lp_2_1 : ∀ (fu : Nat) (i : Nat) (c : Nat → Int), (i ≤ 5) → (∀ j, j < i → c j = V2 j) → 5 - i < fu → jW X 2 [(0, .ref a), (1, .ref a2), (2, .int (jI ((i : Nat) : Int)))] [] [oA a le s h ch, aI cI le 5 c, oS s hr lo ((n : Nat) : Int), aI cI hr 6 SH, aI cI lo 6 SL, oH h hh hq hl hw ((m : Nat) : Int), aI cI hh 6 HH, aI cI hq 6 HO, aI cI hl 6 HL, aI cI hw 6 HW, oA a2 le2 s2 h2 ch2, aI cI le2 5 V2, oS s2 hr2 lo2 ((n2 : Nat) : Int), aI cI hr2 6 SH2, aI cI lo2 6 SL2, oH h2 hh2 hq2 hl2 hw2 ((m2 : Nat) : Int), aI cI hh2 6 HH2, aI cI hq2 6 HO2, aI cI hl2 6 HL2, aI cI hw2 6 HW2] := by
    intro fu
    induction fu with
    | zero => intro i c hi hc hm; exact absurd hm (Nat.not_lt_zero _)
    | succ fu ih_2 =>
      intro i c hi hc hm
      refine jw_iload_n (pc := 2) C dX0_copyFrom_2 2 rfl ?_
      refine jw_iconst (pc := 3) C dX0_copyFrom_3 ?_
      refine jw_icmp_ge (pc := 4) (tgt := 25) C dX0_copyFrom_4 (by decide) (by omega) (by omega) (fun c_4 => ?_) (fun c_4 => ?_)
      · -- 4 t
        refine jw_arr (f := c) (g := V2) (ws' := [oA a le s h ch, aI cI le 5 V2, oS s hr lo ((n : Nat) : Int), aI cI hr 6 SH, aI cI lo 6 SL, oH h hh hq hl hw ((m : Nat) : Int), aI cI hh 6 HH, aI cI hq 6 HO, aI cI hl 6 HL, aI cI hw 6 HW, oA a2 le2 s2 h2 ch2, aI cI le2 5 V2, oS s2 hr2 lo2 ((n2 : Nat) : Int), aI cI hr2 6 SH2, aI cI lo2 6 SL2, oH h2 hh2 hq2 hl2 hw2 ((m2 : Nat) : Int), aI cI hh2 6 HH2, aI cI hq2 6 HO2, aI cI hl2 6 HL2, aI cI hw2 6 HW2]) 1 rfl (by exact fun j hj => hc j (by omega)) rfl ?_
        refine jw_aload_n (pc := 25) C dX0_copyFrom_25 0 rfl ?_
        refine jw_get (pc := 26) C hi_X0_copyFrom_X0 0 rfl rfl 1 (by decide) fl_X0_copyFrom_18 rfl rfl dX0_copyFrom_26 ?_
        refine jw_aload_n (pc := 29) C dX0_copyFrom_29 1 rfl ?_
        refine jw_get (pc := 30) C hi_X0_copyFrom_X0 10 rfl rfl 1 (by decide) fl_X0_copyFrom_18 rfl rfl dX0_copyFrom_30 ?_
        refine jw_callWV (pc := 33) C [.ref s2] [] 1 (con_X3_copyFrom lau D cI cB s hr lo (((n : Nat) : Int)) SH SL s2 hr2 lo2 n2 SH2 SL2 ) gX0_copyFrom_X3_copyFrom rfl rfl rfl (by decide +kernel) ⟨Nat.le_of_ble_eq_true rfl, Nat.le_of_ble_eq_true rfl⟩ 2 rfl rfl [2, 3, 4, 12, 13, 14] [0, 1, 5, 6, 7, 8, 9, 10, 11, 15, 16, 17, 18, 19] [0, 1, 14, 15, 16, 2, 3, 4, 5, 6, 7, 8, 17, 18, 19, 9, 10, 11, 12, 13] (wr := [oA a le s h ch, aI cI le 5 V2, oH h hh hq hl hw ((m : Nat) : Int), aI cI hh 6 HH, aI cI hq 6 HO, aI cI hl 6 HL, aI cI hw 6 HW, oA a2 le2 s2 h2 ch2, aI cI le2 5 V2, oH h2 hh2 hq2 hl2 hw2 ((m2 : Nat) : Int), aI cI hh2 6 HH2, aI cI hq2 6 HO2, aI cI hl2 6 HL2, aI cI hw2 6 HW2]) rfl rfl (by decide) (by decide) (fun _ => rfl) (wN := fun u_33_3 => [oA a le s h ch, aI cI le 5 V2, oS s hr lo ((n2 : Nat) : Int), aI cI hr 6 SH2, aI cI lo 6 SL2, oH h hh hq hl hw ((m : Nat) : Int), aI cI hh 6 HH, aI cI hq 6 HO, aI cI hl 6 HL, aI cI hw 6 HW, oA a2 le2 s2 h2 ch2, aI cI le2 5 V2, oS s2 hr2 lo2 ((n2 : Nat) : Int), aI cI hr2 6 SH2, aI cI lo2 6 SL2, oH h2 hh2 hq2 hl2 hw2 ((m2 : Nat) : Int), aI cI hh2 6 HH2, aI cI hq2 6 HO2, aI cI hl2 6 HL2, aI cI hw2 6 HW2]) (fun _ => rfl) (stN := fun u_33_3 => []) (fun _ => rfl) rfl (Nat.le_of_ble_eq_true rfl) rfl dX0_copyFrom_33 (fun u_33_3 hu_33_3 => ?_)
        refine jw_aload_n (pc := 36) C dX0_copyFrom_36 0 rfl ?_
        refine jw_get (pc := 37) C hi_X0_copyFrom_X0 0 rfl rfl 2 (by decide) fl_X0_copyFrom_25 rfl rfl dX0_copyFrom_37 ?_
        refine jw_aload_n (pc := 40) C dX0_copyFrom_40 1 rfl ?_
        refine jw_get (pc := 41) C hi_X0_copyFrom_X0 10 rfl rfl 2 (by decide) fl_X0_copyFrom_25 rfl rfl dX0_copyFrom_41 ?_
        refine jw_callWV (pc := 44) C [.ref h2] [] 1 (con_X1_copyFrom lau D cI cB h hh hq hl hw (((m : Nat) : Int)) HH HO HL HW h2 hh2 hq2 hl2 hw2 m2 HH2 HO2 HL2 HW2 ) gX0_copyFrom_X1_copyFrom rfl rfl rfl (by decide +kernel) ⟨Nat.le_of_ble_eq_true rfl, Nat.le_of_ble_eq_true rfl⟩ 5 rfl rfl [5, 6, 7, 8, 9, 15, 16, 17, 18, 19] [0, 1, 2, 3, 4, 10, 11, 12, 13, 14] [0, 1, 2, 3, 4, 10, 11, 12, 13, 14, 5, 6, 7, 8, 9, 15, 16, 17, 18, 19] (wr := [oA a le s h ch, aI cI le 5 V2, oS s hr lo ((n2 : Nat) : Int), aI cI hr 6 SH2, aI cI lo 6 SL2, oA a2 le2 s2 h2 ch2, aI cI le2 5 V2, oS s2 hr2 lo2 ((n2 : Nat) : Int), aI cI hr2 6 SH2, aI cI lo2 6 SL2]) rfl rfl (by decide) (by decide) (fun _ => rfl) (wN := fun u_44_4 => [oA a le s h ch, aI cI le 5 V2, oS s hr lo ((n2 : Nat) : Int), aI cI hr 6 SH2, aI cI lo 6 SL2, oH h hh hq hl hw ((m2 : Nat) : Int), aI cI hh 6 HH2, aI cI hq 6 HO2, aI cI hl 6 HL2, aI cI hw 6 HW2, oA a2 le2 s2 h2 ch2, aI cI le2 5 V2, oS s2 hr2 lo2 ((n2 : Nat) : Int), aI cI hr2 6 SH2, aI cI lo2 6 SL2, oH h2 hh2 hq2 hl2 hw2 ((m2 : Nat) : Int), aI cI hh2 6 HH2, aI cI hq2 6 HO2, aI cI hl2 6 HL2, aI cI hw2 6 HW2]) (fun _ => rfl) (stN := fun u_44_4 => []) (fun _ => rfl) rfl (Nat.le_of_ble_eq_true rfl) rfl dX0_copyFrom_44 (fun u_44_4 hu_44_4 => ?_)
        refine jw_aload_n (pc := 47) C dX0_copyFrom_47 0 rfl ?_
        refine jw_aload_n (pc := 48) C dX0_copyFrom_48 1 rfl ?_
        refine jw_get (pc := 49) C hi_X0_copyFrom_X0 10 rfl rfl 3 (by decide) fl_X0_copyFrom_35 rfl rfl dX0_copyFrom_49 ?_
        refine jw_put (pc := 52) (ty := .int) (ws' := [oA a le s h ch2, aI cI le 5 V2, oS s hr lo ((n2 : Nat) : Int), aI cI hr 6 SH2, aI cI lo 6 SL2, oH h hh hq hl hw ((m2 : Nat) : Int), aI cI hh 6 HH2, aI cI hq 6 HO2, aI cI hl 6 HL2, aI cI hw 6 HW2, oA a2 le2 s2 h2 ch2, aI cI le2 5 V2, oS s2 hr2 lo2 ((n2 : Nat) : Int), aI cI hr2 6 SH2, aI cI lo2 6 SL2, oH h2 hh2 hq2 hl2 hw2 ((m2 : Nat) : Int), aI cI hh2 6 HH2, aI cI hq2 6 HO2, aI cI hl2 6 HL2, aI cI hw2 6 HW2]) C hi_X0_copyFrom_X0 tyX0 tyX0_ok nmX0 0 rfl rfl 3 (by decide) fl_X0_copyFrom_35 rfl rfl (by decide +kernel) rfl rfl (Nat.le_of_ble_eq_true rfl) rfl dX0_copyFrom_52 ?_
        exact jw_vretW (pc := 55) C E dX0_copyFrom_55 (()) rfl trivial rfl
      · -- 4 f
        refine jw_aload_n (pc := 7) C dX0_copyFrom_7 0 rfl ?_
        refine jw_get (pc := 8) C hi_X0_copyFrom_X0 0 rfl rfl 0 (by decide) fl_X0_copyFrom_9 rfl rfl dX0_copyFrom_8 ?_
        refine jw_iload_n (pc := 11) C dX0_copyFrom_11 2 rfl ?_
        refine jw_aload_n (pc := 12) C dX0_copyFrom_12 1 rfl ?_
        refine jw_get (pc := 13) C hi_X0_copyFrom_X0 10 rfl rfl 0 (by decide) fl_X0_copyFrom_9 rfl rfl dX0_copyFrom_13 ?_
        refine jw_iload_n (pc := 16) C dX0_copyFrom_16 2 rfl ?_
        refine jw_iald (pc := 17) C (f := V2) 11 i rfl rfl (by omega) (by decide) dX0_copyFrom_17 ?_
        refine jw_iast (pc := 18) C (f := c) 1 i rfl rfl (by omega) (by decide) (ws' := [oA a le s h ch, aI cI le 5 (va_up c i (V2 i)), oS s hr lo ((n : Nat) : Int), aI cI hr 6 SH, aI cI lo 6 SL, oH h hh hq hl hw ((m : Nat) : Int), aI cI hh 6 HH, aI cI hq 6 HO, aI cI hl 6 HL, aI cI hw 6 HW, oA a2 le2 s2 h2 ch2, aI cI le2 5 V2, oS s2 hr2 lo2 ((n2 : Nat) : Int), aI cI hr2 6 SH2, aI cI lo2 6 SL2, oH h2 hh2 hq2 hl2 hw2 ((m2 : Nat) : Int), aI cI hh2 6 HH2, aI cI hq2 6 HO2, aI cI hl2 6 HL2, aI cI hw2 6 HW2]) rfl dX0_copyFrom_18 ?_
        refine jw_iinc (pc := 19) (z := ((i + 1 : Nat) : Int)) (lv' := [(2, .int (jI ((i + 1 : Nat) : Int))), (0, .ref a), (1, .ref a2)]) C dX0_copyFrom_19 2 rfl (by omega) (by decide) rfl ?_
        refine jw_goto (pc := 22) (tgt := 2) C dX0_copyFrom_22 (by decide) ?_
        refine jw_lv [1, 2, 0] rfl ?_
        exact ih_2 (i + 1) (va_up c i (V2 i)) (by omega) (sp_cpy_step (n := 5) rfl hc) (by omega)
  refine jw_lv [1, 2, 0] rfl ?_
  exact lp_2_1 ((5 - 0) + 1) 0 V (by omega) (fun j hj => absurd hj (Nat.not_lt_zero _)) (Nat.lt_succ_self _)
