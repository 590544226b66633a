def rmX5_isWithin : Room := { frames := 0, cells := 0, slots := 0, locals := 0 }
set_option maxHeartbeats 4000000 in
set_option maxRecDepth 100000 in
theorem con_X5_isWithin (lau : Launch) (D : va_G) (cI cB : ClassId) (z : Int) (lo : Int) (hi : Int) (h1 : -2147483648 ≤ z ∧ z < 2147483648) (h2 : -2147483648 ≤ lo ∧ lo < 2147483648) (h3 : -2147483648 ≤ hi ∧ hi < 2147483648) : jMR lau yX5_isWithin wsX5_isWithin rmX5_isWithin D cI cB [.int (jI z), .int (jI lo), .int (jI hi)] [] (.int (jI (jb (lo ≤ z ∧ z ≤ hi)))) := by
  refine jMR.of (own := RX5) (cc := cX5_isWithin) (maxL := 3) (ret := (some .boolean)) rfl (by decide) rfl (Nat.le_of_ble_eq_true rfl) ?_
  intro X C E
  refine jw_lv (lv' := [(0, .int (jI z)), (1, .int (jI lo)), (2, .int (jI hi))]) [0, 1, 2] rfl ?_
  refine jw_iload_n (pc := 0) C dX5_isWithin_0 0 rfl ?_
  refine jw_iload_n (pc := 1) C dX5_isWithin_1 1 rfl ?_
  refine jw_icmp_lt (pc := 2) (tgt := 14) C dX5_isWithin_2 (by decide) (by omega) (by omega) (fun c_2 => ?_) (fun c_2 => ?_)
  · -- 2 t
    refine jw_iconst (pc := 14) C dX5_isWithin_14 ?_
    exact jw_zretR (pc := 15) C E dX5_isWithin_15 (congrArg jI (by unfold jb; split <;> omega)) (jb_n _)
  · -- 2 f
    refine jw_iload_n (pc := 5) C dX5_isWithin_5 0 rfl ?_
    refine jw_iload_n (pc := 6) C dX5_isWithin_6 2 rfl ?_
    refine jw_icmp_gt (pc := 7) (tgt := 14) C dX5_isWithin_7 (by decide) (by omega) (by omega) (fun c_7 => ?_) (fun c_7 => ?_)
    · -- 7 t
      refine jw_iconst (pc := 14) C dX5_isWithin_14 ?_
      exact jw_zretR (pc := 15) C E dX5_isWithin_15 (congrArg jI (by unfold jb; split <;> omega)) (jb_n _)
    · -- 7 f
      refine jw_iconst (pc := 10) C dX5_isWithin_10 ?_
      refine jw_goto (pc := 11) (tgt := 15) C dX5_isWithin_11 (by decide) ?_
      exact jw_zretR (pc := 15) C E dX5_isWithin_15 (congrArg jI (by unfold jb; split <;> omega)) (jb_n _)
def rmX5_isHourOfDay : Room := { frames := 1, cells := 0, slots := 0, locals := 22 }
set_option maxHeartbeats 4000000 in
set_option maxRecDepth 100000 in
theorem con_X5_isHourOfDay (lau : Launch) (D : va_G) (cI cB : ClassId) (z : Int) (h1 : -2147483648 ≤ z ∧ z < 2147483648) : jMR lau yX5_isHourOfDay wsX5_isHourOfDay rmX5_isHourOfDay D cI cB [.int (jI z)] [] (.int (jI (jb (0 ≤ z ∧ z ≤ 11)))) := by
  refine jMR.of (own := RX5) (cc := cX5_isHourOfDay) (maxL := 1) (ret := (some .boolean)) rfl (by decide) rfl (Nat.le_of_ble_eq_true rfl) ?_
  intro X C E
  refine jw_lv (lv' := [(0, .int (jI z))]) [0] rfl ?_
  refine jw_iload_n (pc := 0) C dX5_isHourOfDay_0 0 rfl ?_
  refine jw_iconst (pc := 1) C dX5_isHourOfDay_1 ?_
  refine jw_bipush (pc := 2) C dX5_isHourOfDay_2 (by decide +kernel) ?_
  refine jw_callRS (pc := 4) C [.int (jI z), .int (jI 0), .int (jI 11)] [] 3 (con_X5_isWithin lau D cI cB z 0 11 (by omega) (by omega) (by omega)) gX5_isHourOfDay_X5_isWithin rfl rfl rfl (by decide +kernel) ⟨Nat.le_of_ble_eq_true rfl, Nat.le_of_ble_eq_true rfl⟩ [] rfl rfl (Nat.le_of_ble_eq_true rfl) rfl dX5_isHourOfDay_4 ?_
  exact jw_zretR (pc := 7) C E dX5_isHourOfDay_7 rfl (jb_n _)
def rmX5_isHeardLoud : Room := { frames := 1, cells := 0, slots := 0, locals := 22 }
set_option maxHeartbeats 4000000 in
set_option maxRecDepth 100000 in
theorem con_X5_isHeardLoud (lau : Launch) (D : va_G) (cI cB : ClassId) (z : Int) (h1 : -2147483648 ≤ z ∧ z < 2147483648) : jMR lau yX5_isHeardLoud wsX5_isHeardLoud rmX5_isHeardLoud D cI cB [.int (jI z)] [] (.int (jI (jb (1 ≤ z ∧ z ≤ 9)))) := by
  refine jMR.of (own := RX5) (cc := cX5_isHeardLoud) (maxL := 1) (ret := (some .boolean)) rfl (by decide) rfl (Nat.le_of_ble_eq_true rfl) ?_
  intro X C E
  refine jw_lv (lv' := [(0, .int (jI z))]) [0] rfl ?_
  refine jw_iload_n (pc := 0) C dX5_isHeardLoud_0 0 rfl ?_
  refine jw_iconst (pc := 1) C dX5_isHeardLoud_1 ?_
  refine jw_bipush (pc := 2) C dX5_isHeardLoud_2 (by decide +kernel) ?_
  refine jw_callRS (pc := 4) C [.int (jI z), .int (jI 1), .int (jI 9)] [] 3 (con_X5_isWithin lau D cI cB z 1 9 (by omega) (by omega) (by omega)) gX5_isHeardLoud_X5_isWithin rfl rfl rfl (by decide +kernel) ⟨Nat.le_of_ble_eq_true rfl, Nat.le_of_ble_eq_true rfl⟩ [] rfl rfl (Nat.le_of_ble_eq_true rfl) rfl dX5_isHeardLoud_4 ?_
  exact jw_zretR (pc := 7) C E dX5_isHeardLoud_7 rfl (jb_n _)
theorem mt1_X5_above_254 : Cond.methodLink RX5 254 Lib.Math.max.name ∈ wsX5_above := by decide +kernel
theorem mt2_X5_above_254 : Cond.static Lib.Math.max.name ∈ wsX5_above := by decide +kernel
theorem mt3_X5_above_254 : Cond.initialized "java/lang/Math" ∈ wsX5_above := by decide +kernel
theorem mt4_X5_above_254 : Cond.code Lib.Math.max.name Lib.Math.max.code 2 (some .int) ∈ wsX5_above := by decide +kernel
def rmX5_above : Room := { frames := 1, cells := 0, slots := 0, locals := 21 }
set_option maxHeartbeats 4000000 in
set_option maxRecDepth 100000 in
theorem con_X5_above (lau : Launch) (D : va_G) (cI cB : ClassId) (lv : Int) (ht : Int) (h1 : 0 ≤ lv ∧ lv ≤ 99) (h2 : 0 ≤ ht ∧ ht ≤ 99) : jMR lau yX5_above wsX5_above rmX5_above D cI cB [.int (jI lv), .int (jI ht)] [] (.int (jI (sp_less ht lv))) := by
  refine jMR.of (own := RX5) (cc := cX5_above) (maxL := 2) (ret := (some .int)) rfl (by decide) rfl (Nat.le_of_ble_eq_true rfl) ?_
  intro X C E
  refine jw_lv (lv' := [(0, .int (jI lv)), (1, .int (jI ht))]) [0, 1] rfl ?_
  refine jw_iconst (pc := 0) C dX5_above_0 ?_
  refine jw_iload_n (pc := 1) C dX5_above_1 1 rfl ?_
  refine jw_iload_n (pc := 2) C dX5_above_2 0 rfl ?_
  refine jw_isub (pc := 3) (z := (ht - lv)) C dX5_above_3 rfl ?_
  refine jw_max (pc := 4) C mt1_X5_above_254 mt2_X5_above_254 mt3_X5_above_254 mt4_X5_above_254 (Nat.le_of_ble_eq_true rfl) (Nat.le_of_ble_eq_true rfl) (by omega) (by omega) dX5_above_4 (z := (if 0 < (ht - lv) then (ht - lv) else 0)) rfl ?_
  exact jw_iretR (pc := 7) C E dX5_above_7 (congrArg jI (by unfold sp_less; (repeat' split) <;> omega))
def rmX5_howAt : Room := { frames := 0, cells := 0, slots := 0, locals := 0 }
set_option maxHeartbeats 4000000 in
set_option maxRecDepth 100000 in
theorem con_X5_howAt (lau : Launch) (D : va_G) (cI cB : ClassId) (m : Int) (h1 : -2147483648 ≤ m ∧ m < 2147483648) : jMR lau yX5_howAt wsX5_howAt rmX5_howAt D cI cB [.int (jI m)] [] (.int (jI (sp_how m))) := by
  refine jMR.of (own := RX5) (cc := cX5_howAt) (maxL := 1) (ret := (some .int)) rfl (by decide) rfl (Nat.le_of_ble_eq_true rfl) ?_
  intro X C E
  refine jw_lv (lv' := [(0, .int (jI m))]) [0] rfl ?_
  refine jw_iload_n (pc := 0) C dX5_howAt_0 0 rfl ?_
  refine jw_if_ne (pc := 1) (tgt := 6) C dX5_howAt_1 (by decide) (by omega) (fun c_1 => ?_) (fun c_1 => ?_)
  · -- 1 t
    refine jw_iload_n (pc := 6) C dX5_howAt_6 0 rfl ?_
    refine jw_iconst (pc := 7) C dX5_howAt_7 ?_
    refine jw_icmp_ge (pc := 8) (tgt := 15) C dX5_howAt_8 (by decide) (by omega) (by omega) (fun c_8 => ?_) (fun c_8 => ?_)
    · -- 8 t
      refine jw_iconst (pc := 15) C dX5_howAt_15 ?_
      exact jw_iretR (pc := 16) C E dX5_howAt_16 (congrArg jI (by unfold sp_how; (repeat' split) <;> omega))
    · -- 8 f
      refine jw_iconst (pc := 11) C dX5_howAt_11 ?_
      refine jw_goto (pc := 12) (tgt := 16) C dX5_howAt_12 (by decide) ?_
      exact jw_iretR (pc := 16) C E dX5_howAt_16 (congrArg jI (by unfold sp_how; (repeat' split) <;> omega))
  · -- 1 f
    refine jw_iconst (pc := 4) C dX5_howAt_4 ?_
    exact jw_iretR (pc := 5) C E dX5_howAt_5 (congrArg jI (by unfold sp_how; (repeat' split) <;> omega))
theorem cn_X5_mix_239 : Cond.constantLong RX5 239 (31) ∈ wsX5_mix := by decide +kernel
def rmX5_mix : Room := { frames := 0, cells := 0, slots := 0, locals := 0 }
set_option maxHeartbeats 4000000 in
set_option maxRecDepth 100000 in
theorem con_X5_mix (lau : Launch) (D : va_G) (cI cB : ClassId) (h : Int64) (v : Int64)  : jMR lau yX5_mix wsX5_mix rmX5_mix D cI cB [.long h, .long v] [] (.long (31 * h + v)) := by
  refine jMR.of (own := RX5) (cc := cX5_mix) (maxL := 4) (ret := (some .long)) rfl (by decide) rfl (Nat.le_of_ble_eq_true rfl) ?_
  intro X C E
  refine jw_lv (lv' := [(0, .long h), (2, .long v)]) [0, 1] rfl ?_
  refine jw_ldc2 (pc := 0) C dX5_mix_0 cn_X5_mix_239 ?_
  refine jw_lload_n (pc := 3) C dX5_mix_3 0 rfl ?_
  refine jw_lmul (pc := 4) C (31 * h) dX5_mix_4 rfl ?_
  refine jw_lload_n (pc := 5) C dX5_mix_5 1 rfl ?_
  refine jw_ladd (pc := 6) C ((31 * h) + v) dX5_mix_6 rfl ?_
  exact jw_lretR (pc := 7) C E dX5_mix_7 rfl
def rmX5_kindOf : Room := { frames := 0, cells := 0, slots := 0, locals := 0 }
set_option maxHeartbeats 4000000 in
set_option maxRecDepth 100000 in
theorem con_X5_kindOf (lau : Launch) (D : va_G) (cI cB : ClassId) (c : Int) (h1 : -2147483648 ≤ c ∧ c < 2147483648) : jMR lau yX5_kindOf wsX5_kindOf rmX5_kindOf D cI cB [.int (jI c)] [] (.int (jI (sp_kind c))) := by
  refine jMR.of (own := RX5) (cc := cX5_kindOf) (maxL := 1) (ret := (some .int)) rfl (by decide) rfl (Nat.le_of_ble_eq_true rfl) ?_
  intro X C E
  refine jw_lv (lv' := [(0, .int (jI c))]) [0] rfl ?_
  refine jw_iload_n (pc := 0) C dX5_kindOf_0 0 rfl ?_
  by_cases sw_1_99 : c = 99
  · -- case 99
    refine jw_table (pc := 1) (tgt := 76) C dX5_kindOf_1 (by omega) (by omega) (by omega) (by rw [sw_1_99]; rfl) (by decide) ?_
    refine jw_iconst (pc := 76) C dX5_kindOf_76 ?_
    exact jw_iretR (pc := 77) C E dX5_kindOf_77 (congrArg jI (by unfold sp_kind; (repeat' split) <;> omega))
  ·
    by_cases sw_1_100 : c = 100
    · -- case 100
      refine jw_table (pc := 1) (tgt := 74) C dX5_kindOf_1 (by omega) (by omega) (by omega) (by rw [sw_1_100]; rfl) (by decide) ?_
      refine jw_iconst (pc := 74) C dX5_kindOf_74 ?_
      exact jw_iretR (pc := 75) C E dX5_kindOf_75 (congrArg jI (by unfold sp_kind; (repeat' split) <;> omega))
    ·
      by_cases sw_1_104 : c = 104
      · -- case 104
        refine jw_table (pc := 1) (tgt := 68) C dX5_kindOf_1 (by omega) (by omega) (by omega) (by rw [sw_1_104]; rfl) (by decide) ?_
        refine jw_iconst (pc := 68) C dX5_kindOf_68 ?_
        exact jw_iretR (pc := 69) C E dX5_kindOf_69 (congrArg jI (by unfold sp_kind; (repeat' split) <;> omega))
      ·
        by_cases sw_1_108 : c = 108
        · -- case 108
          refine jw_table (pc := 1) (tgt := 70) C dX5_kindOf_1 (by omega) (by omega) (by omega) (by rw [sw_1_108]; rfl) (by decide) ?_
          refine jw_iconst (pc := 70) C dX5_kindOf_70 ?_
          exact jw_iretR (pc := 71) C E dX5_kindOf_71 (congrArg jI (by unfold sp_kind; (repeat' split) <;> omega))
        ·
          by_cases sw_1_111 : c = 111
          · -- case 111
            refine jw_table (pc := 1) (tgt := 72) C dX5_kindOf_1 (by omega) (by omega) (by omega) (by rw [sw_1_111]; rfl) (by decide) ?_
            refine jw_iconst (pc := 72) C dX5_kindOf_72 ?_
            exact jw_iretR (pc := 73) C E dX5_kindOf_73 (congrArg jI (by unfold sp_kind; (repeat' split) <;> omega))
          ·
            by_cases sw_1_101 : c = 101
            · -- hole 101
              refine jw_table (pc := 1) (tgt := 78) C dX5_kindOf_1 (by omega) (by omega) (by omega) (by rw [sw_1_101]; rfl) (by decide) ?_
              refine jw_iconst (pc := 78) C dX5_kindOf_78 ?_
              exact jw_iretR (pc := 79) C E dX5_kindOf_79 (congrArg jI (by unfold sp_kind; (repeat' split) <;> omega))
            ·
              by_cases sw_1_102 : c = 102
              · -- hole 102
                refine jw_table (pc := 1) (tgt := 78) C dX5_kindOf_1 (by omega) (by omega) (by omega) (by rw [sw_1_102]; rfl) (by decide) ?_
                refine jw_iconst (pc := 78) C dX5_kindOf_78 ?_
                exact jw_iretR (pc := 79) C E dX5_kindOf_79 (congrArg jI (by unfold sp_kind; (repeat' split) <;> omega))
              ·
                by_cases sw_1_103 : c = 103
                · -- hole 103
                  refine jw_table (pc := 1) (tgt := 78) C dX5_kindOf_1 (by omega) (by omega) (by omega) (by rw [sw_1_103]; rfl) (by decide) ?_
                  refine jw_iconst (pc := 78) C dX5_kindOf_78 ?_
                  exact jw_iretR (pc := 79) C E dX5_kindOf_79 (congrArg jI (by unfold sp_kind; (repeat' split) <;> omega))
                ·
                  by_cases sw_1_105 : c = 105
                  · -- hole 105
                    refine jw_table (pc := 1) (tgt := 78) C dX5_kindOf_1 (by omega) (by omega) (by omega) (by rw [sw_1_105]; rfl) (by decide) ?_
                    refine jw_iconst (pc := 78) C dX5_kindOf_78 ?_
                    exact jw_iretR (pc := 79) C E dX5_kindOf_79 (congrArg jI (by unfold sp_kind; (repeat' split) <;> omega))
                  ·
                    by_cases sw_1_106 : c = 106
                    · -- hole 106
                      refine jw_table (pc := 1) (tgt := 78) C dX5_kindOf_1 (by omega) (by omega) (by omega) (by rw [sw_1_106]; rfl) (by decide) ?_
                      refine jw_iconst (pc := 78) C dX5_kindOf_78 ?_
                      exact jw_iretR (pc := 79) C E dX5_kindOf_79 (congrArg jI (by unfold sp_kind; (repeat' split) <;> omega))
                    ·
                      by_cases sw_1_107 : c = 107
                      · -- hole 107
                        refine jw_table (pc := 1) (tgt := 78) C dX5_kindOf_1 (by omega) (by omega) (by omega) (by rw [sw_1_107]; rfl) (by decide) ?_
                        refine jw_iconst (pc := 78) C dX5_kindOf_78 ?_
                        exact jw_iretR (pc := 79) C E dX5_kindOf_79 (congrArg jI (by unfold sp_kind; (repeat' split) <;> omega))
                      ·
                        by_cases sw_1_109 : c = 109
                        · -- hole 109
                          refine jw_table (pc := 1) (tgt := 78) C dX5_kindOf_1 (by omega) (by omega) (by omega) (by rw [sw_1_109]; rfl) (by decide) ?_
                          refine jw_iconst (pc := 78) C dX5_kindOf_78 ?_
                          exact jw_iretR (pc := 79) C E dX5_kindOf_79 (congrArg jI (by unfold sp_kind; (repeat' split) <;> omega))
                        ·
                          by_cases sw_1_110 : c = 110
                          · -- hole 110
                            refine jw_table (pc := 1) (tgt := 78) C dX5_kindOf_1 (by omega) (by omega) (by omega) (by rw [sw_1_110]; rfl) (by decide) ?_
                            refine jw_iconst (pc := 78) C dX5_kindOf_78 ?_
                            exact jw_iretR (pc := 79) C E dX5_kindOf_79 (congrArg jI (by unfold sp_kind; (repeat' split) <;> omega))
                          ·
                            refine jw_tableOut (pc := 1) (tgt := 78) C dX5_kindOf_1 (by omega) (by omega) (by decide) ?_
                            refine jw_iconst (pc := 78) C dX5_kindOf_78 ?_
                            exact jw_iretR (pc := 79) C E dX5_kindOf_79 (congrArg jI (by unfold sp_kind; (repeat' split) <;> omega))
theorem fl_X4_at_9 : Cond.fieldLink RX4 9 "GongTide$Tide" "sums" "[I" ∈ wsX4_at := by decide +kernel
theorem hi_X4_at_X4 : ∀ w ∈ wsX40, w ∈ wsX4_at := fun w h => List.mem_cons_of_mem _ (List.mem_append_right _ h)
theorem mt1_X4_at_21 : Cond.methodLink RX4 21 Lib.Math.min.name ∈ wsX4_at := by decide +kernel
theorem mt2_X4_at_21 : Cond.static Lib.Math.min.name ∈ wsX4_at := by decide +kernel
theorem mt3_X4_at_21 : Cond.initialized "java/lang/Math" ∈ wsX4_at := by decide +kernel
theorem mt4_X4_at_21 : Cond.code Lib.Math.min.name Lib.Math.min.code 2 (some .int) ∈ wsX4_at := by decide +kernel
def rmX4_at : Room := { frames := 1, cells := 0, slots := 0, locals := 21 }
set_option maxHeartbeats 4000000 in
set_option maxRecDepth 100000 in
theorem con_X4_at (lau : Launch) (D : va_G) (cI cB : ClassId) (t : Nat) (q : Nat) (f : Nat → Int) (z : Int) (hz : -1 ≤ z ∧ z ≤ 11) (hf : ∀ k, k < 12 → 0 ≤ f k ∧ f k ≤ 99) : jMR lau yX4_at wsX4_at rmX4_at D cI cB [.ref t, .int (jI z)] [oT t q, aI cI q 12 f] (.int (jI (sp_at f z))) := by
  refine jMR.of (own := RX4) (cc := cX4_at) (maxL := 2) (ret := (some .int)) rfl (by decide) rfl (Nat.le_of_ble_eq_true rfl) ?_
  intro X C E
  refine jw_lv (lv' := [(0, .ref t), (1, .int (jI z))]) [0, 1] rfl ?_
  refine jw_iload_n (pc := 0) C dX4_at_0 1 rfl ?_
  refine jw_if_lt (pc := 1) (tgt := 10) C dX4_at_1 (by decide) (by omega) (fun c_1 => ?_) (fun c_1 => ?_)
  · -- 1 t
    refine jw_iconst (pc := 10) C dX4_at_10 ?_
    exact jw_iretR (pc := 11) C E dX4_at_11 (congrArg jI (by unfold sp_at; rw [if_pos (by omega)]))
  · -- 1 f
    refine jw_iload_n (pc := 4) C dX4_at_4 1 rfl ?_
    refine jw_bipush (pc := 5) C dX4_at_5 (by decide +kernel) ?_
    refine jw_icmp_lt (pc := 7) (tgt := 12) C dX4_at_7 (by decide) (by omega) (by omega) (fun c_7 => ?_) (fun c_7 => ?_)
    · -- 7 t
      refine jw_bipush (pc := 12) C dX4_at_12 (by decide +kernel) ?_
      refine jw_aload_n (pc := 14) C dX4_at_14 0 rfl ?_
      refine jw_get (pc := 15) C hi_X4_at_X4 0 rfl rfl 0 (by decide) fl_X4_at_9 rfl rfl dX4_at_15 ?_
      refine jw_iload_n (pc := 18) C dX4_at_18 1 rfl ?_
      refine jw_iald (pc := 19) C (f := f) 1 ((z).toNat) rfl (by omega) (by omega) (by decide) dX4_at_19 ?_
      have r_19 := hf ((z).toNat) (by omega)
      refine jw_min (pc := 20) C mt1_X4_at_21 mt2_X4_at_21 mt3_X4_at_21 mt4_X4_at_21 (Nat.le_of_ble_eq_true rfl) (Nat.le_of_ble_eq_true rfl) (by omega) (by omega) dX4_at_20 (z := (if (f ((z).toNat)) < 20 then (f ((z).toNat)) else 20)) rfl ?_
      exact jw_iretR (pc := 23) C E dX4_at_23 (congrArg jI (by unfold sp_at sp_cap; (repeat' split) <;> omega))
    · exfalso; omega
theorem fl_X4_clear_9 : Cond.fieldLink RX4 9 "GongTide$Tide" "sums" "[I" ∈ wsX4_clear := by decide +kernel
theorem hi_X4_clear_X4 : ∀ w ∈ wsX40, w ∈ wsX4_clear := fun w h => List.mem_cons_of_mem _ (List.mem_append_right _ h)
def rmX4_clear : Room := { frames := 0, cells := 0, slots := 0, locals := 0 }
set_option maxHeartbeats 4000000 in
set_option maxRecDepth 100000 in
theorem con_X4_clear (lau : Launch) (D : va_G) (cI cB : ClassId) (t : Nat) (q : Nat) (f : Nat → Int)  : jMW (S := Unit) lau yX4_clear wsX4_clear rmX4_clear D cI cB [.ref t] [oT t q, aI cI q 12 f] (fun u => none) (fun u => True) (fun u => [oT t q, aI cI q 12 sp_zero]) := by
  refine jMW.of (own := RX4) (cc := cX4_clear) (maxL := 2) (ret := none) rfl (by decide) rfl (Nat.le_of_ble_eq_true rfl) ?_
  intro X C E
  refine jw_lv (lv' := [(0, .ref t)]) [0] rfl ?_
  refine jw_iconst (pc := 0) C dX4_clear_0 ?_
  refine jw_istore_n (pc := 1) (lv' := [(1, .int (jI 0)), (0, .ref t)]) C dX4_clear_1 (by decide) rfl ?_
  have lp_2_1 : ∀ (fu : Nat) (i : Nat) (c : Nat → Int), (i ≤ 12) → (∀ j, j < i → c j = sp_zero j) → 12 - i < fu → jW X 2 [(0, .ref t), (1, .int (jI ((i : Nat) : Int)))] [] [oT t q, aI cI q 12 c] := by
    intro fu
    induction fu with
    | zero => intro i c hi hc hm; exact absurd hm (Nat.not_lt_zero _)
    | succ fu ih_2 =>
      intro i c hi hc hm
      refine jw_iload_n (pc := 2) C dX4_clear_2 1 rfl ?_
      refine jw_bipush (pc := 3) C dX4_clear_3 (by decide +kernel) ?_
      refine jw_icmp_ge (pc := 5) (tgt := 21) C dX4_clear_5 (by decide) (by omega) (by omega) (fun c_5 => ?_) (fun c_5 => ?_)
      · -- 5 t
        refine jw_arr (f := c) (g := sp_zero) (ws' := [oT t q, aI cI q 12 sp_zero]) 1 rfl (by exact fun j hj => hc j (by omega)) rfl ?_
        exact jw_vretW (pc := 21) C E dX4_clear_21 (()) rfl trivial rfl
      · -- 5 f
        refine jw_aload_n (pc := 8) C dX4_clear_8 0 rfl ?_
        refine jw_get (pc := 9) C hi_X4_clear_X4 0 rfl rfl 0 (by decide) fl_X4_clear_9 rfl rfl dX4_clear_9 ?_
        refine jw_iload_n (pc := 12) C dX4_clear_12 1 rfl ?_
        refine jw_iconst (pc := 13) C dX4_clear_13 ?_
        refine jw_iast (pc := 14) C (f := c) 1 i rfl rfl (by omega) (by decide) (ws' := [oT t q, aI cI q 12 (va_up c i 0)]) rfl dX4_clear_14 ?_
        refine jw_iinc (pc := 15) (z := ((i + 1 : Nat) : Int)) (lv' := [(1, .int (jI ((i + 1 : Nat) : Int))), (0, .ref t)]) C dX4_clear_15 1 rfl (by omega) (by decide) rfl ?_
        refine jw_goto (pc := 18) (tgt := 2) C dX4_clear_18 (by decide) ?_
        refine jw_lv [1, 0] rfl ?_
        exact ih_2 (i + 1) (va_up c i 0) (by omega) (sp_cpy_step (n := 12) rfl hc) (by omega)
  refine jw_lv [1, 0] rfl ?_
  exact lp_2_1 ((12 - 0) + 1) 0 f (by omega) (fun j hj => absurd hj (Nat.not_lt_zero _)) (Nat.lt_succ_self _)
theorem fl_X4_add_9 : Cond.fieldLink RX4 9 "GongTide$Tide" "sums" "[I" ∈ wsX4_add := by decide +kernel
theorem hi_X4_add_X4 : ∀ w ∈ wsX40, w ∈ wsX4_add := fun w h => List.mem_cons_of_mem _ (List.mem_append_right _ h)
theorem mt1_X4_add_15 : Cond.methodLink RX4 15 Lib.Math.max.name ∈ wsX4_add := by decide +kernel
theorem mt2_X4_add_15 : Cond.static Lib.Math.max.name ∈ wsX4_add := by decide +kernel
theorem mt3_X4_add_15 : Cond.initialized "java/lang/Math" ∈ wsX4_add := by decide +kernel
theorem mt4_X4_add_15 : Cond.code Lib.Math.max.name Lib.Math.max.code 2 (some .int) ∈ wsX4_add := by decide +kernel
def rmX4_add : Room := { frames := 1, cells := 0, slots := 0, locals := 21 }
set_option maxHeartbeats 4000000 in
set_option maxRecDepth 100000 in
theorem con_X4_add (lau : Launch) (D : va_G) (cI cB : ClassId) (t : Nat) (q : Nat) (f : Nat → Int) (a : Int) (l : Int) (ha : 0 ≤ a ∧ a ≤ 9) (hl9 : 0 ≤ l ∧ l ≤ 9) : jMW (S := Unit) lau yX4_add wsX4_add rmX4_add D cI cB [.ref t, .int (jI a), .int (jI l)] [oT t q, aI cI q 12 f] (fun u => none) (fun u => True) (fun u => [oT t q, aI cI q 12 (sp_add f a l)]) := by
  refine jMW.of (own := RX4) (cc := cX4_add) (maxL := 5) (ret := none) rfl (by decide) rfl (Nat.le_of_ble_eq_true rfl) ?_
  intro X C E
  refine jw_lv (lv' := [(0, .ref t), (1, .int (jI a)), (2, .int (jI l))]) [0, 1, 2] rfl ?_
  obtain ⟨ka, rfl⟩ : ∃ ka : Nat, a = ((ka : Nat) : Int) := ⟨(a).toNat, by omega⟩
  refine jw_iload_n (pc := 0) C dX4_add_0 2 rfl ?_
  refine jw_istore_n (pc := 1) (lv' := [(3, .int (jI l)), (0, .ref t), (1, .int (jI ((ka : Nat) : Int))), (2, .int (jI l))]) C dX4_add_1 (by decide) rfl ?_
  refine jw_iconst (pc := 2) C dX4_add_2 ?_
  refine jw_iload_n (pc := 3) C dX4_add_3 2 rfl ?_
  refine jw_max (pc := 4) C mt1_X4_add_15 mt2_X4_add_15 mt3_X4_add_15 mt4_X4_add_15 (Nat.le_of_ble_eq_true rfl) (Nat.le_of_ble_eq_true rfl) (by omega) (by omega) dX4_add_4 (z := ((ka : Nat) : Int)) (by split <;> omega) ?_
  refine jw_istore (pc := 7) (lv' := [(4, .int (jI ((ka : Nat) : Int))), (3, .int (jI l)), (0, .ref t), (1, .int (jI ((ka : Nat) : Int))), (2, .int (jI l))]) C dX4_add_7 (by decide) rfl ?_
  have lp_9_1 : ∀ (fu : Nat) (i : Nat) (left : Int) (c : Nat → Int), (ka ≤ i ∧ i ≤ 12) → (left = l - 2 * ((i : Int) - (ka : Int))) → (∀ j, j < 12 → c j = f j + (if j < i then sp_con (ka : Int) l j else 0)) → 12 - i < fu → jW X 9 [(0, .ref t), (1, .int (jI ((ka : Nat) : Int))), (2, .int (jI l)), (3, .int (jI left)), (4, .int (jI ((i : Nat) : Int)))] [] [oT t q, aI cI q 12 c] := by
    intro fu
    induction fu with
    | zero => intro i left c hi hl hc hm; exact absurd hm (Nat.not_lt_zero _)
    | succ fu ih_2 =>
      intro i left c hi hl hc hm
      refine jw_iload (pc := 9) C dX4_add_9 4 rfl ?_
      refine jw_bipush (pc := 11) C dX4_add_11 (by decide +kernel) ?_
      refine jw_icmp_ge (pc := 13) (tgt := 40) C dX4_add_13 (by decide) (by omega) (by omega) (fun c_13 => ?_) (fun c_13 => ?_)
      · -- 13 t
        refine jw_arr (f := c) (g := sp_add f (ka : Int) l) (ws' := [oT t q, aI cI q 12 (sp_add f (ka : Int) l)]) 1 rfl (by exact sp_add_end hl (by omega) hc) rfl ?_
        exact jw_vretW (pc := 40) C E dX4_add_40 (()) rfl trivial rfl
      · -- 13 f
        refine jw_iload_n (pc := 16) C dX4_add_16 3 rfl ?_
        refine jw_if_le (pc := 17) (tgt := 40) C dX4_add_17 (by decide) (by omega) (fun c_17 => ?_) (fun c_17 => ?_)
        · -- 17 t
          refine jw_arr (f := c) (g := sp_add f (ka : Int) l) (ws' := [oT t q, aI cI q 12 (sp_add f (ka : Int) l)]) 1 rfl (by exact sp_add_end hl (by omega) hc) rfl ?_
          exact jw_vretW (pc := 40) C E dX4_add_40 (()) rfl trivial rfl
        · -- 17 f
          refine jw_aload_n (pc := 20) C dX4_add_20 0 rfl ?_
          refine jw_get (pc := 21) C hi_X4_add_X4 0 rfl rfl 0 (by decide) fl_X4_add_9 rfl rfl dX4_add_21 ?_
          refine jw_iload (pc := 24) C dX4_add_24 4 rfl ?_
          refine jw_dup2 (pc := 26) C dX4_add_26 rfl rfl ?_
          refine jw_iald (pc := 27) C (f := c) 1 i rfl rfl (by omega) (by decide) dX4_add_27 ?_
          refine jw_iload_n (pc := 28) C dX4_add_28 3 rfl ?_
          refine jw_iadd (pc := 29) (z := ((c i) + left)) C dX4_add_29 rfl ?_
          refine jw_iast (pc := 30) C (f := c) 1 i rfl rfl (by omega) (by decide) (ws' := [oT t q, aI cI q 12 (va_up c i ((c i) + left))]) rfl dX4_add_30 ?_
          refine jw_iinc (pc := 31) (z := (left + (-2))) (lv' := [(3, .int (jI (left + (-2)))), (0, .ref t), (1, .int (jI ((ka : Nat) : Int))), (2, .int (jI l)), (4, .int (jI ((i : Nat) : Int)))]) C dX4_add_31 3 rfl rfl (by decide) rfl ?_
          refine jw_iinc (pc := 34) (z := ((i + 1 : Nat) : Int)) (lv' := [(4, .int (jI ((i + 1 : Nat) : Int))), (3, .int (jI (left + (-2)))), (0, .ref t), (1, .int (jI ((ka : Nat) : Int))), (2, .int (jI l))]) C dX4_add_34 4 rfl (by omega) (by decide) rfl ?_
          refine jw_goto (pc := 37) (tgt := 9) C dX4_add_37 (by decide) ?_
          refine jw_lv [2, 3, 4, 1, 0] rfl ?_
          exact ih_2 (i + 1) ((left + (-2))) (va_up c i ((c i) + left)) (by omega) (by omega) (sp_add_step hl (by omega) (by omega) (by omega) hc) (by omega)
  refine jw_lv [2, 3, 4, 1, 0] rfl ?_
  exact lp_9_1 ((12 - ka) + 1) ka l f (by omega) (by omega) (sp_add_start rfl) (Nat.lt_succ_self _)
theorem fl_X4_copyFrom_9 : Cond.fieldLink RX4 9 "GongTide$Tide" "sums" "[I" ∈ wsX4_copyFrom := by decide +kernel
theorem hi_X4_copyFrom_X4 : ∀ w ∈ wsX40, w ∈ wsX4_copyFrom := fun w h => List.mem_cons_of_mem _ (List.mem_append_right _ h)
def rmX4_copyFrom : Room := { frames := 0, cells := 0, slots := 0, locals := 0 }
set_option maxHeartbeats 4000000 in
set_option maxRecDepth 100000 in
theorem con_X4_copyFrom (lau : Launch) (D : va_G) (cI cB : ClassId) (t : Nat) (q : Nat) (f : Nat → Int) (t2 : Nat) (q2 : Nat) (g : Nat → Int)  : jMW (S := Unit) lau yX4_copyFrom wsX4_copyFrom rmX4_copyFrom D cI cB [.ref t, .ref t2] [oT t q, aI cI q 12 f, oT t2 q2, aI cI q2 12 g] (fun u => none) (fun u => True) (fun u => [oT t q, aI cI q 12 g, oT t2 q2, aI cI q2 12 g]) := by
  refine jMW.of (own := RX4) (cc := cX4_copyFrom) (maxL := 3) (ret := none) rfl (by decide) rfl (Nat.le_of_ble_eq_true rfl) ?_
  intro X C E
  refine jw_lv (lv' := [(0, .ref t), (1, .ref t2)]) [0, 1] rfl ?_
  refine jw_iconst (pc := 0) C dX4_copyFrom_0 ?_
  refine jw_istore_n (pc := 1) (lv' := [(2, .int (jI 0)), (0, .ref t), (1, .ref t2)]) C dX4_copyFrom_1 (by decide) rfl ?_
  have lp_2_1 : ∀ (fu : Nat) (i : Nat) (c : Nat → Int), (i ≤ 12) → (∀ j, j < i → c j = g j) → 12 - i < fu → jW X 2 [(0, .ref t), (1, .ref t2), (2, .int (jI ((i : Nat) : Int)))] [] [oT t q, aI cI q 12 c, oT t2 q2, aI cI q2 12 g] := by
    intro fu
    induction fu with
    | zero => intro i c hi hc hm; exact absurd hm (Nat.not_lt_zero _)
    | succ fu ih_2 =>
      intro i c hi hc hm
      refine jw_iload_n (pc := 2) C dX4_copyFrom_2 2 rfl ?_
      refine jw_bipush (pc := 3) C dX4_copyFrom_3 (by decide +kernel) ?_
      refine jw_icmp_ge (pc := 5) (tgt := 26) C dX4_copyFrom_5 (by decide) (by omega) (by omega) (fun c_5 => ?_) (fun c_5 => ?_)
      · -- 5 t
        refine jw_arr (f := c) (g := g) (ws' := [oT t q, aI cI q 12 g, oT t2 q2, aI cI q2 12 g]) 1 rfl (by exact fun j hj => hc j (by omega)) rfl ?_
        exact jw_vretW (pc := 26) C E dX4_copyFrom_26 (()) rfl trivial rfl
      · -- 5 f
        refine jw_aload_n (pc := 8) C dX4_copyFrom_8 0 rfl ?_
        refine jw_get (pc := 9) C hi_X4_copyFrom_X4 0 rfl rfl 0 (by decide) fl_X4_copyFrom_9 rfl rfl dX4_copyFrom_9 ?_
        refine jw_iload_n (pc := 12) C dX4_copyFrom_12 2 rfl ?_
        refine jw_aload_n (pc := 13) C dX4_copyFrom_13 1 rfl ?_
        refine jw_get (pc := 14) C hi_X4_copyFrom_X4 2 rfl rfl 0 (by decide) fl_X4_copyFrom_9 rfl rfl dX4_copyFrom_14 ?_
        refine jw_iload_n (pc := 17) C dX4_copyFrom_17 2 rfl ?_
        refine jw_iald (pc := 18) C (f := g) 3 i rfl rfl (by omega) (by decide) dX4_copyFrom_18 ?_
        refine jw_iast (pc := 19) C (f := c) 1 i rfl rfl (by omega) (by decide) (ws' := [oT t q, aI cI q 12 (va_up c i (g i)), oT t2 q2, aI cI q2 12 g]) rfl dX4_copyFrom_19 ?_
        refine jw_iinc (pc := 20) (z := ((i + 1 : Nat) : Int)) (lv' := [(2, .int (jI ((i + 1 : Nat) : Int))), (0, .ref t), (1, .ref t2)]) C dX4_copyFrom_20 2 rfl (by omega) (by decide) rfl ?_
        refine jw_goto (pc := 23) (tgt := 2) C dX4_copyFrom_23 (by decide) ?_
        refine jw_lv [1, 2, 0] rfl ?_
        exact ih_2 (i + 1) (va_up c i (g i)) (by omega) (sp_cpy_step (n := 12) rfl hc) (by omega)
  refine jw_lv [1, 2, 0] rfl ?_
  exact lp_2_1 ((12 - 0) + 1) 0 f (by omega) (fun j hj => absurd hj (Nat.not_lt_zero _)) (Nat.lt_succ_self _)
theorem mt1_X4_greatest_15 : Cond.methodLink RX4 15 Lib.Math.max.name ∈ wsX4_greatest := by decide +kernel
theorem mt2_X4_greatest_15 : Cond.static Lib.Math.max.name ∈ wsX4_greatest := by decide +kernel
theorem mt3_X4_greatest_15 : Cond.initialized "java/lang/Math" ∈ wsX4_greatest := by decide +kernel
theorem mt4_X4_greatest_15 : Cond.code Lib.Math.max.name Lib.Math.max.code 2 (some .int) ∈ wsX4_greatest := by decide +kernel
def rmX4_greatest : Room := { frames := 2, cells := 0, slots := 0, locals := 42 }
set_option maxHeartbeats 4000000 in
set_option maxRecDepth 100000 in
theorem con_X4_greatest (lau : Launch) (D : va_G) (cI cB : ClassId) (t : Nat) (q : Nat) (f : Nat → Int) (hf : ∀ k, k < 12 → 0 ≤ f k ∧ f k ≤ 99) : jMR lau yX4_greatest wsX4_greatest rmX4_greatest D cI cB [.ref t] [oT t q, aI cI q 12 f] (.int (jI (sp_gr f 12))) := by
  refine jMR.of (own := RX4) (cc := cX4_greatest) (maxL := 3) (ret := (some .int)) rfl (by decide) rfl (Nat.le_of_ble_eq_true rfl) ?_
  intro X C E
  refine jw_lv (lv' := [(0, .ref t)]) [0] rfl ?_
  refine jw_iconst (pc := 0) C dX4_greatest_0 ?_
  refine jw_istore_n (pc := 1) (lv' := [(1, .int (jI 0)), (0, .ref t)]) C dX4_greatest_1 (by decide) rfl ?_
  refine jw_iconst (pc := 2) C dX4_greatest_2 ?_
  refine jw_istore_n (pc := 3) (lv' := [(2, .int (jI 0)), (1, .int (jI 0)), (0, .ref t)]) C dX4_greatest_3 (by decide) rfl ?_
  have lp_4_1 : ∀ (fu : Nat) (i : Nat) (g : Int), (i ≤ 12) → (g = sp_gr f i) → (0 ≤ g ∧ g ≤ 20) → 12 - i < fu → jW X 4 [(0, .ref t), (1, .int (jI g)), (2, .int (jI ((i : Nat) : Int)))] [] [oT t q, aI cI q 12 f] := by
    intro fu
    induction fu with
    | zero => intro i g hi hg hb hm; exact absurd hm (Nat.not_lt_zero _)
    | succ fu ih_2 =>
      intro i g hi hg hb hm
      refine jw_iload_n (pc := 4) C dX4_greatest_4 2 rfl ?_
      refine jw_bipush (pc := 5) C dX4_greatest_5 (by decide +kernel) ?_
      refine jw_icmp_ge (pc := 7) (tgt := 26) C dX4_greatest_7 (by decide) (by omega) (by omega) (fun c_7 => ?_) (fun c_7 => ?_)
      · -- 7 t
        refine jw_iload_n (pc := 26) C dX4_greatest_26 1 rfl ?_
        exact jw_iretR (pc := 27) C E dX4_greatest_27 (congrArg jI (by rw [hg, show i = 12 by omega]))
      · -- 7 f
        refine jw_iload_n (pc := 10) C dX4_greatest_10 1 rfl ?_
        refine jw_aload_n (pc := 11) C dX4_greatest_11 0 rfl ?_
        refine jw_iload_n (pc := 12) C dX4_greatest_12 2 rfl ?_
        refine jw_callRV (pc := 13) C [.int (jI ((((i : Nat) : Int))))] [.int (jI g)] 1 (con_X4_at lau D cI cB t q f (((i : Nat) : Int)) (by omega) hf) gX4_greatest_X4_at rfl rfl rfl (by decide +kernel) ⟨Nat.le_of_ble_eq_true rfl, Nat.le_of_ble_eq_true rfl⟩ 0 rfl rfl [0, 1] rfl rfl (Nat.le_of_ble_eq_true rfl) rfl dX4_greatest_13 ?_
        have b_13_0 := (sp_at_b hf (by omega) : 0 ≤ sp_at f (((i : Nat) : Int)) ∧ sp_at f (((i : Nat) : Int)) ≤ 20)
        refine jw_top (y := jI (sp_cap (f i))) (congrArg jI (sp_at_nat f i)) ?_
        rw [sp_at_nat] at b_13_0
        refine jw_max (pc := 16) C mt1_X4_greatest_15 mt2_X4_greatest_15 mt3_X4_greatest_15 mt4_X4_greatest_15 (Nat.le_of_ble_eq_true rfl) (Nat.le_of_ble_eq_true rfl) (by omega) (by omega) dX4_greatest_16 (z := (if g < (sp_cap (f i)) then (sp_cap (f i)) else g)) rfl ?_
        refine jw_istore_n (pc := 19) (lv' := [(1, .int (jI (if g < (sp_cap (f i)) then (sp_cap (f i)) else g))), (0, .ref t), (2, .int (jI ((i : Nat) : Int)))]) C dX4_greatest_19 (by decide) rfl ?_
        refine jw_iinc (pc := 20) (z := ((i + 1 : Nat) : Int)) (lv' := [(2, .int (jI ((i + 1 : Nat) : Int))), (1, .int (jI (if g < (sp_cap (f i)) then (sp_cap (f i)) else g))), (0, .ref t)]) C dX4_greatest_20 2 rfl (by omega) (by decide) rfl ?_
        refine jw_goto (pc := 23) (tgt := 4) C dX4_greatest_23 (by decide) ?_
        refine jw_lv [2, 1, 0] rfl ?_
        exact ih_2 (i + 1) ((if g < (sp_cap (f i)) then (sp_cap (f i)) else g)) (by omega) (by rw [hg]; rfl) (by split <;> omega) (by omega)
  refine jw_lv [2, 1, 0] rfl ?_
  exact lp_4_1 ((12 - 0) + 1) 0 0 (by omega) rfl (by omega) (Nat.lt_succ_self _)
