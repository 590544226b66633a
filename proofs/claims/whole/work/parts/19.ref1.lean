def rmX6_within : Room := { frames := 0, cells := 0, slots := 0, locals := 0 }
set_option maxHeartbeats 4000000 in
set_option maxRecDepth 100000 in
theorem con_X6_within (lau : Launch) (D : va_G) (cI cB : ClassId) (z : Int) (lo : Int) (hi : Int) (h1 : -2147483648 ≤ z ∧ z < 2147483648) (h2 : -2147483648 ≤ lo ∧ lo < 2147483648) (h3 : -2147483648 ≤ hi ∧ hi < 2147483648) : jMR lau yX6_within wsX6_within rmX6_within D cI cB [.int (jI z), .int (jI lo), .int (jI hi)] [] (.int (jI (jb (lo ≤ z ∧ z ≤ hi)))) := by
  refine jMR.of (own := RX6) (cc := cX6_within) (maxL := 3) (ret := (some .boolean)) rfl (by decide) rfl (Nat.le_of_ble_eq_true rfl) ?_
  intro X C E
  refine jw_lv (lv' := [(0, .int (jI z)), (1, .int (jI lo)), (2, .int (jI hi))]) [0, 1, 2] rfl ?_
  refine jw_iload_n (pc := 0) C dX6_within_0 0 rfl ?_
  refine jw_iload_n (pc := 1) C dX6_within_1 1 rfl ?_
  refine jw_icmp_lt (pc := 2) (tgt := 14) C dX6_within_2 (by decide) (by omega) (by omega) (fun c_2 => ?_) (fun c_2 => ?_)
  · -- 2 t
    refine jw_iconst (pc := 14) C dX6_within_14 ?_
    exact jw_zretR (pc := 15) C E dX6_within_15 (congrArg jI (by first | exact jb_i1 (by omega) | exact jb_i0 (by omega))) (jb_n _)
  · -- 2 f
    refine jw_iload_n (pc := 5) C dX6_within_5 0 rfl ?_
    refine jw_iload_n (pc := 6) C dX6_within_6 2 rfl ?_
    refine jw_icmp_gt (pc := 7) (tgt := 14) C dX6_within_7 (by decide) (by omega) (by omega) (fun c_7 => ?_) (fun c_7 => ?_)
    · -- 7 t
      refine jw_iconst (pc := 14) C dX6_within_14 ?_
      exact jw_zretR (pc := 15) C E dX6_within_15 (congrArg jI (by first | exact jb_i1 (by omega) | exact jb_i0 (by omega))) (jb_n _)
    · -- 7 f
      refine jw_iconst (pc := 10) C dX6_within_10 ?_
      refine jw_goto (pc := 11) (tgt := 15) C dX6_within_11 (by decide) ?_
      exact jw_zretR (pc := 15) C E dX6_within_15 (congrArg jI (by first | exact jb_i1 (by omega) | exact jb_i0 (by omega))) (jb_n _)
def rmX6_isIn : Room := { frames := 0, cells := 0, slots := 0, locals := 0 }
set_option maxHeartbeats 4000000 in
set_option maxRecDepth 100000 in
theorem con_X6_isIn (lau : Launch) (D : va_G) (cI cB : ClassId) (b : Nat) (k : Nat) (hb : b < 1024) (hk : k < 12) : jMR lau yX6_isIn wsX6_isIn rmX6_isIn D cI cB [.int (jI ((b : Nat) : Int)), .int (jI ((k : Nat) : Int))] [] (.int (jI (jb (sp_bit b k = 1)))) := by
  refine jMR.of (own := RX6) (cc := cX6_isIn) (maxL := 2) (ret := (some .boolean)) rfl (by decide) rfl (Nat.le_of_ble_eq_true rfl) ?_
  intro X C E
  refine jw_lv (lv' := [(0, .int (jI ((b : Nat) : Int))), (1, .int (jI ((k : Nat) : Int)))]) [0, 1] rfl ?_
  refine jw_iload_n (pc := 0) C dX6_isIn_0 0 rfl ?_
  refine jw_iload_n (pc := 1) C dX6_isIn_1 1 rfl ?_
  refine jw_ishr (pc := 2) C (jI ((b / 2 ^ k : Nat) : Int)) dX6_isIn_2 (jI_shr (by omega) (by omega)) ?_
  refine jw_iconst (pc := 3) C dX6_isIn_3 ?_
  refine jw_iand (pc := 4) C (jI ((sp_bit b k : Nat) : Int)) dX6_isIn_4 (jI_and1 (Nat.lt_of_le_of_lt (Nat.div_le_self _ _) (by omega))) ?_
  have hbt := sp_bit_b b k
  refine jw_iconst (pc := 5) C dX6_isIn_5 ?_
  refine jw_icmp_ne (pc := 6) (tgt := 13) C dX6_isIn_6 (by decide) (by omega) (by omega) (fun c_6 => ?_) (fun c_6 => ?_)
  · -- 6 t
    refine jw_iconst (pc := 13) C dX6_isIn_13 ?_
    exact jw_zretR (pc := 14) C E dX6_isIn_14 (congrArg jI (by first | exact jb_i1 (by omega) | exact jb_i0 (by omega))) (jb_n _)
  · -- 6 f
    refine jw_iconst (pc := 9) C dX6_isIn_9 ?_
    refine jw_goto (pc := 10) (tgt := 14) C dX6_isIn_10 (by decide) ?_
    exact jw_zretR (pc := 14) C E dX6_isIn_14 (congrArg jI (by first | exact jb_i1 (by omega) | exact jb_i0 (by omega))) (jb_n _)
def rmX6_isHour : Room := { frames := 1, cells := 0, slots := 0, locals := 22 }
set_option maxHeartbeats 4000000 in
set_option maxRecDepth 100000 in
theorem con_X6_isHour (lau : Launch) (D : va_G) (cI cB : ClassId) (z : Int) (h1 : -2147483648 ≤ z ∧ z < 2147483648) : jMR lau yX6_isHour wsX6_isHour rmX6_isHour D cI cB [.int (jI z)] [] (.int (jI (jb (0 ≤ z ∧ z ≤ 11)))) := by
  refine jMR.of (own := RX6) (cc := cX6_isHour) (maxL := 1) (ret := (some .boolean)) rfl (by decide) rfl (Nat.le_of_ble_eq_true rfl) ?_
  intro X C E
  refine jw_lv (lv' := [(0, .int (jI z))]) [0] rfl ?_
  refine jw_iload_n (pc := 0) C dX6_isHour_0 0 rfl ?_
  refine jw_iconst (pc := 1) C dX6_isHour_1 ?_
  refine jw_bipush (pc := 2) C dX6_isHour_2 (by decide +kernel) ?_
  refine jw_callRS (pc := 4) C [.int (jI z), .int (jI 0), .int (jI 11)] [] 3 (con_X6_within lau D cI cB z 0 11 (by omega) (by omega) (by omega)) gX6_isHour_X6_within rfl rfl rfl (by decide +kernel) ⟨Nat.le_of_ble_eq_true rfl, Nat.le_of_ble_eq_true rfl⟩ [] rfl rfl (Nat.le_of_ble_eq_true rfl) rfl dX6_isHour_4 ?_
  exact jw_zretR (pc := 7) C E dX6_isHour_7 rfl (jb_n _)
def rmX6_kindBy : Room := { frames := 0, cells := 0, slots := 0, locals := 0 }
set_option maxHeartbeats 4000000 in
set_option maxRecDepth 100000 in
theorem con_X6_kindBy (lau : Launch) (D : va_G) (cI cB : ClassId) (c : Int) (h1 : -2147483648 ≤ c ∧ c < 2147483648) : jMR lau yX6_kindBy wsX6_kindBy rmX6_kindBy D cI cB [.int (jI c)] [] (.int (jI (sp_kind c))) := by
  refine jMR.of (own := RX6) (cc := cX6_kindBy) (maxL := 1) (ret := (some .int)) rfl (by decide) rfl (Nat.le_of_ble_eq_true rfl) ?_
  intro X C E
  refine jw_lv (lv' := [(0, .int (jI c))]) [0] rfl ?_
  refine jw_iload_n (pc := 0) C dX6_kindBy_0 0 rfl ?_
  by_cases sw_1_99 : c = 99
  · -- case 99
    refine jw_table (pc := 1) (tgt := 76) C dX6_kindBy_1 (by omega) (by omega) (by omega) (by rw [sw_1_99]; rfl) (by decide) ?_
    refine jw_iconst (pc := 76) C dX6_kindBy_76 ?_
    exact jw_iretR (pc := 77) C E dX6_kindBy_77 (congrArg jI (by unfold sp_kind; (repeat' split) <;> omega))
  ·
    by_cases sw_1_100 : c = 100
    · -- case 100
      refine jw_table (pc := 1) (tgt := 74) C dX6_kindBy_1 (by omega) (by omega) (by omega) (by rw [sw_1_100]; rfl) (by decide) ?_
      refine jw_iconst (pc := 74) C dX6_kindBy_74 ?_
      exact jw_iretR (pc := 75) C E dX6_kindBy_75 (congrArg jI (by unfold sp_kind; (repeat' split) <;> omega))
    ·
      by_cases sw_1_104 : c = 104
      · -- case 104
        refine jw_table (pc := 1) (tgt := 68) C dX6_kindBy_1 (by omega) (by omega) (by omega) (by rw [sw_1_104]; rfl) (by decide) ?_
        refine jw_iconst (pc := 68) C dX6_kindBy_68 ?_
        exact jw_iretR (pc := 69) C E dX6_kindBy_69 (congrArg jI (by unfold sp_kind; (repeat' split) <;> omega))
      ·
        by_cases sw_1_108 : c = 108
        · -- case 108
          refine jw_table (pc := 1) (tgt := 70) C dX6_kindBy_1 (by omega) (by omega) (by omega) (by rw [sw_1_108]; rfl) (by decide) ?_
          refine jw_iconst (pc := 70) C dX6_kindBy_70 ?_
          exact jw_iretR (pc := 71) C E dX6_kindBy_71 (congrArg jI (by unfold sp_kind; (repeat' split) <;> omega))
        ·
          by_cases sw_1_111 : c = 111
          · -- case 111
            refine jw_table (pc := 1) (tgt := 72) C dX6_kindBy_1 (by omega) (by omega) (by omega) (by rw [sw_1_111]; rfl) (by decide) ?_
            refine jw_iconst (pc := 72) C dX6_kindBy_72 ?_
            exact jw_iretR (pc := 73) C E dX6_kindBy_73 (congrArg jI (by unfold sp_kind; (repeat' split) <;> omega))
          ·
            by_cases sw_1_101 : c = 101
            · -- hole 101
              refine jw_table (pc := 1) (tgt := 78) C dX6_kindBy_1 (by omega) (by omega) (by omega) (by rw [sw_1_101]; rfl) (by decide) ?_
              refine jw_iconst (pc := 78) C dX6_kindBy_78 ?_
              exact jw_iretR (pc := 79) C E dX6_kindBy_79 (congrArg jI (by unfold sp_kind; (repeat' split) <;> omega))
            ·
              by_cases sw_1_102 : c = 102
              · -- hole 102
                refine jw_table (pc := 1) (tgt := 78) C dX6_kindBy_1 (by omega) (by omega) (by omega) (by rw [sw_1_102]; rfl) (by decide) ?_
                refine jw_iconst (pc := 78) C dX6_kindBy_78 ?_
                exact jw_iretR (pc := 79) C E dX6_kindBy_79 (congrArg jI (by unfold sp_kind; (repeat' split) <;> omega))
              ·
                by_cases sw_1_103 : c = 103
                · -- hole 103
                  refine jw_table (pc := 1) (tgt := 78) C dX6_kindBy_1 (by omega) (by omega) (by omega) (by rw [sw_1_103]; rfl) (by decide) ?_
                  refine jw_iconst (pc := 78) C dX6_kindBy_78 ?_
                  exact jw_iretR (pc := 79) C E dX6_kindBy_79 (congrArg jI (by unfold sp_kind; (repeat' split) <;> omega))
                ·
                  by_cases sw_1_105 : c = 105
                  · -- hole 105
                    refine jw_table (pc := 1) (tgt := 78) C dX6_kindBy_1 (by omega) (by omega) (by omega) (by rw [sw_1_105]; rfl) (by decide) ?_
                    refine jw_iconst (pc := 78) C dX6_kindBy_78 ?_
                    exact jw_iretR (pc := 79) C E dX6_kindBy_79 (congrArg jI (by unfold sp_kind; (repeat' split) <;> omega))
                  ·
                    by_cases sw_1_106 : c = 106
                    · -- hole 106
                      refine jw_table (pc := 1) (tgt := 78) C dX6_kindBy_1 (by omega) (by omega) (by omega) (by rw [sw_1_106]; rfl) (by decide) ?_
                      refine jw_iconst (pc := 78) C dX6_kindBy_78 ?_
                      exact jw_iretR (pc := 79) C E dX6_kindBy_79 (congrArg jI (by unfold sp_kind; (repeat' split) <;> omega))
                    ·
                      by_cases sw_1_107 : c = 107
                      · -- hole 107
                        refine jw_table (pc := 1) (tgt := 78) C dX6_kindBy_1 (by omega) (by omega) (by omega) (by rw [sw_1_107]; rfl) (by decide) ?_
                        refine jw_iconst (pc := 78) C dX6_kindBy_78 ?_
                        exact jw_iretR (pc := 79) C E dX6_kindBy_79 (congrArg jI (by unfold sp_kind; (repeat' split) <;> omega))
                      ·
                        by_cases sw_1_109 : c = 109
                        · -- hole 109
                          refine jw_table (pc := 1) (tgt := 78) C dX6_kindBy_1 (by omega) (by omega) (by omega) (by rw [sw_1_109]; rfl) (by decide) ?_
                          refine jw_iconst (pc := 78) C dX6_kindBy_78 ?_
                          exact jw_iretR (pc := 79) C E dX6_kindBy_79 (congrArg jI (by unfold sp_kind; (repeat' split) <;> omega))
                        ·
                          by_cases sw_1_110 : c = 110
                          · -- hole 110
                            refine jw_table (pc := 1) (tgt := 78) C dX6_kindBy_1 (by omega) (by omega) (by omega) (by rw [sw_1_110]; rfl) (by decide) ?_
                            refine jw_iconst (pc := 78) C dX6_kindBy_78 ?_
                            exact jw_iretR (pc := 79) C E dX6_kindBy_79 (congrArg jI (by unfold sp_kind; (repeat' split) <;> omega))
                          ·
                            refine jw_tableOut (pc := 1) (tgt := 78) C dX6_kindBy_1 (by omega) (by omega) (by decide) ?_
                            refine jw_iconst (pc := 78) C dX6_kindBy_78 ?_
                            exact jw_iretR (pc := 79) C E dX6_kindBy_79 (congrArg jI (by unfold sp_kind; (repeat' split) <;> omega))
def rmX6_less : Room := { frames := 0, cells := 0, slots := 0, locals := 0 }
set_option maxHeartbeats 4000000 in
set_option maxRecDepth 100000 in
theorem con_X6_less (lau : Launch) (D : va_G) (cI cB : ClassId) (a : Int) (b : Int) (h1 : 0 ≤ a ∧ a ≤ 99) (h2 : 0 ≤ b ∧ b ≤ 99) : jMR lau yX6_less wsX6_less rmX6_less D cI cB [.int (jI a), .int (jI b)] [] (.int (jI (sp_less a b))) := by
  refine jMR.of (own := RX6) (cc := cX6_less) (maxL := 2) (ret := (some .int)) rfl (by decide) rfl (Nat.le_of_ble_eq_true rfl) ?_
  intro X C E
  refine jw_lv (lv' := [(0, .int (jI a)), (1, .int (jI b))]) [0, 1] rfl ?_
  refine jw_iload_n (pc := 0) C dX6_less_0 0 rfl ?_
  refine jw_iload_n (pc := 1) C dX6_less_1 1 rfl ?_
  refine jw_icmp_le (pc := 2) (tgt := 11) C dX6_less_2 (by decide) (by omega) (by omega) (fun c_2 => ?_) (fun c_2 => ?_)
  · -- 2 t
    refine jw_iconst (pc := 11) C dX6_less_11 ?_
    exact jw_iretR (pc := 12) C E dX6_less_12 (congrArg jI (by unfold sp_less; (repeat' split) <;> omega))
  · -- 2 f
    refine jw_iload_n (pc := 5) C dX6_less_5 0 rfl ?_
    refine jw_iload_n (pc := 6) C dX6_less_6 1 rfl ?_
    refine jw_isub (pc := 7) (z := (a - b)) C dX6_less_7 rfl ?_
    refine jw_goto (pc := 8) (tgt := 12) C dX6_less_8 (by decide) ?_
    exact jw_iretR (pc := 12) C E dX6_less_12 (congrArg jI (by unfold sp_less; (repeat' split) <;> omega))
theorem fl_X6_isHouse_94 : Cond.fieldLink RX6 94 "GongTideModel" "houses" "I" ∈ wsX6_isHouse := by decide +kernel
theorem hi_X6_isHouse_X6 : ∀ w ∈ wsX60, w ∈ wsX6_isHouse := fun w h => List.mem_cons_of_mem _ (List.mem_append_right _ h)
def rmX6_isHouse : Room := { frames := 1, cells := 0, slots := 0, locals := 22 }
set_option maxHeartbeats 4000000 in
set_option maxRecDepth 100000 in
theorem con_X6_isHouse (lau : Launch) (D : va_G) (cI cB : ClassId) (g : Nat) (co : Int) (nh : Nat) (qk : Nat) (qv : Nat) (ns : Nat) (qh : Nat) (ql : Nat) (ch : Int) (hd : Nat) (q9 : Nat) (q10 : Nat) (q11 : Nat) (q12 : Nat) (pl : Nat) (qp : Nat) (iw : Int) (nw : Int) (nz : Int) (th : Nat) (sd : Int64) (qs : Nat) (ik : Int) (kc : Int) (ks : Nat) (kg : Int) (kh : Nat) (k26 : Nat) (k27 : Nat) (k28 : Nat) (k29 : Nat) (k30 : Nat) (k31 : Nat) (k32 : Nat) (hx : Int64) (z : Int) (hnh : nh ≤ 5) (h1 : -2147483648 ≤ z ∧ z < 2147483648) : jMR lau yX6_isHouse wsX6_isHouse rmX6_isHouse D cI cB [.ref g, .int (jI z)] [oM g co ((nh : Nat) : Int) qk qv ((ns : Nat) : Int) qh ql ch ((hd : Nat) : Int) q9 q10 q11 q12 ((pl : Nat) : Int) qp iw nw nz ((th : Nat) : Int) sd qs ik kc ((ks : Nat) : Int) kg ((kh : Nat) : Int) k26 k27 k28 k29 k30 k31 k32 hx] (.int (jI (jb (0 ≤ z ∧ z ≤ ((nh : Nat) : Int) - 1)))) := by
  refine jMR.of (own := RX6) (cc := cX6_isHouse) (maxL := 2) (ret := (some .boolean)) rfl (by decide) rfl (Nat.le_of_ble_eq_true rfl) ?_
  intro X C E
  refine jw_lv (lv' := [(0, .ref g), (1, .int (jI z))]) [0, 1] rfl ?_
  refine jw_iload_n (pc := 0) C dX6_isHouse_0 1 rfl ?_
  refine jw_iconst (pc := 1) C dX6_isHouse_1 ?_
  refine jw_aload_n (pc := 2) C dX6_isHouse_2 0 rfl ?_
  refine jw_get (pc := 3) C hi_X6_isHouse_X6 0 rfl rfl 1 (by decide) fl_X6_isHouse_94 rfl rfl dX6_isHouse_3 ?_
  refine jw_iconst (pc := 6) C dX6_isHouse_6 ?_
  refine jw_isub (pc := 7) (z := (((nh : Nat) : Int) - 1)) C dX6_isHouse_7 rfl ?_
  refine jw_callRS (pc := 8) C [.int (jI z), .int (jI 0), .int (jI (((((nh : Nat) : Int) - 1))))] [] 3 (con_X6_within lau D cI cB z 0 ((((nh : Nat) : Int) - 1)) (by omega) (by omega) (by omega)) gX6_isHouse_X6_within rfl rfl rfl (by decide +kernel) ⟨Nat.le_of_ble_eq_true rfl, Nat.le_of_ble_eq_true rfl⟩ [] rfl rfl (Nat.le_of_ble_eq_true rfl) rfl dX6_isHouse_8 ?_
  exact jw_zretR (pc := 11) C E dX6_isHouse_11 rfl (jb_n _)
theorem fl_X6_isStroke_97 : Cond.fieldLink RX6 97 "GongTideModel" "strokes" "I" ∈ wsX6_isStroke := by decide +kernel
theorem hi_X6_isStroke_X6 : ∀ w ∈ wsX60, w ∈ wsX6_isStroke := fun w h => List.mem_cons_of_mem _ (List.mem_append_right _ h)
def rmX6_isStroke : Room := { frames := 1, cells := 0, slots := 0, locals := 22 }
set_option maxHeartbeats 4000000 in
set_option maxRecDepth 100000 in
theorem con_X6_isStroke (lau : Launch) (D : va_G) (cI cB : ClassId) (g : Nat) (co : Int) (nh : Nat) (qk : Nat) (qv : Nat) (ns : Nat) (qh : Nat) (ql : Nat) (ch : Int) (hd : Nat) (q9 : Nat) (q10 : Nat) (q11 : Nat) (q12 : Nat) (pl : Nat) (qp : Nat) (iw : Int) (nw : Int) (nz : Int) (th : Nat) (sd : Int64) (qs : Nat) (ik : Int) (kc : Int) (ks : Nat) (kg : Int) (kh : Nat) (k26 : Nat) (k27 : Nat) (k28 : Nat) (k29 : Nat) (k30 : Nat) (k31 : Nat) (k32 : Nat) (hx : Int64) (z : Int) (hns : ns ≤ 6) (h1 : -2147483648 ≤ z ∧ z < 2147483648) : jMR lau yX6_isStroke wsX6_isStroke rmX6_isStroke D cI cB [.ref g, .int (jI z)] [oM g co ((nh : Nat) : Int) qk qv ((ns : Nat) : Int) qh ql ch ((hd : Nat) : Int) q9 q10 q11 q12 ((pl : Nat) : Int) qp iw nw nz ((th : Nat) : Int) sd qs ik kc ((ks : Nat) : Int) kg ((kh : Nat) : Int) k26 k27 k28 k29 k30 k31 k32 hx] (.int (jI (jb (0 ≤ z ∧ z ≤ ((ns : Nat) : Int) - 1)))) := by
  refine jMR.of (own := RX6) (cc := cX6_isStroke) (maxL := 2) (ret := (some .boolean)) rfl (by decide) rfl (Nat.le_of_ble_eq_true rfl) ?_
  intro X C E
  refine jw_lv (lv' := [(0, .ref g), (1, .int (jI z))]) [0, 1] rfl ?_
  refine jw_iload_n (pc := 0) C dX6_isStroke_0 1 rfl ?_
  refine jw_iconst (pc := 1) C dX6_isStroke_1 ?_
  refine jw_aload_n (pc := 2) C dX6_isStroke_2 0 rfl ?_
  refine jw_get (pc := 3) C hi_X6_isStroke_X6 0 rfl rfl 4 (by decide) fl_X6_isStroke_97 rfl rfl dX6_isStroke_3 ?_
  refine jw_iconst (pc := 6) C dX6_isStroke_6 ?_
  refine jw_isub (pc := 7) (z := (((ns : Nat) : Int) - 1)) C dX6_isStroke_7 rfl ?_
  refine jw_callRS (pc := 8) C [.int (jI z), .int (jI 0), .int (jI (((((ns : Nat) : Int) - 1))))] [] 3 (con_X6_within lau D cI cB z 0 ((((ns : Nat) : Int) - 1)) (by omega) (by omega) (by omega)) gX6_isStroke_X6_within rfl rfl rfl (by decide +kernel) ⟨Nat.le_of_ble_eq_true rfl, Nat.le_of_ble_eq_true rfl⟩ [] rfl rfl (Nat.le_of_ble_eq_true rfl) rfl dX6_isStroke_8 ?_
  exact jw_zretR (pc := 11) C E dX6_isStroke_11 rfl (jb_n _)
theorem fl_X6_tideAt_16 : Cond.fieldLink RX6 16 "GongTideModel" "hourOf" "[I" ∈ wsX6_tideAt := by decide +kernel
theorem fl_X6_tideAt_19 : Cond.fieldLink RX6 19 "GongTideModel" "loudOf" "[I" ∈ wsX6_tideAt := by decide +kernel
theorem fl_X6_tideAt_97 : Cond.fieldLink RX6 97 "GongTideModel" "strokes" "I" ∈ wsX6_tideAt := by decide +kernel
theorem fl_X6_tideAt_109 : Cond.fieldLink RX6 109 "GongTideModel" "thought" "I" ∈ wsX6_tideAt := by decide +kernel
theorem hi_X6_tideAt_X6 : ∀ w ∈ wsX60, w ∈ wsX6_tideAt := fun w h => List.mem_cons_of_mem _ (List.mem_append_right _ h)
def rmX6_tideAt : Room := { frames := 0, cells := 0, slots := 0, locals := 0 }
set_option maxHeartbeats 4000000 in
set_option maxRecDepth 100000 in
theorem con_X6_tideAt (lau : Launch) (D : va_G) (cI cB : ClassId) (g : Nat) (co : Int) (nh : Nat) (qk : Nat) (qv : Nat) (ns : Nat) (qh : Nat) (ql : Nat) (ch : Int) (hd : Nat) (q9 : Nat) (q10 : Nat) (q11 : Nat) (q12 : Nat) (pl : Nat) (qp : Nat) (iw : Int) (nw : Int) (nz : Int) (th : Nat) (sd : Int64) (qs : Nat) (ik : Int) (kc : Int) (ks : Nat) (kg : Int) (kh : Nat) (k26 : Nat) (k27 : Nat) (k28 : Nat) (k29 : Nat) (k30 : Nat) (k31 : Nat) (k32 : Nat) (hx : Int64) (SH : Nat → Int) (SL : Nat → Int) (i : Nat) (hns : ns ≤ 6) (hth : th ≤ 1) (hS : ∀ x, x < ns + th → 0 ≤ SH x ∧ SH x ≤ 9 ∧ 0 ≤ SL x ∧ SL x ≤ 9) (hi : i < 12) : jMR lau yX6_tideAt wsX6_tideAt rmX6_tideAt D cI cB [.ref g, .int (jI ((i : Nat) : Int))] [oM g co ((nh : Nat) : Int) qk qv ((ns : Nat) : Int) qh ql ch ((hd : Nat) : Int) q9 q10 q11 q12 ((pl : Nat) : Int) qp iw nw nz ((th : Nat) : Int) sd qs ik kc ((ks : Nat) : Int) kg ((kh : Nat) : Int) k26 k27 k28 k29 k30 k31 k32 hx, aI cI qh 7 SH, aI cI ql 7 SL] (.int (jI (sp_cap ((sp_sum SH SL (ns + th)) i)))) := by
  refine jMR.of (own := RX6) (cc := cX6_tideAt) (maxL := 6) (ret := (some .int)) rfl (by decide) rfl (Nat.le_of_ble_eq_true rfl) ?_
  intro X C E
  refine jw_lv (lv' := [(0, .ref g), (1, .int (jI ((i : Nat) : Int)))]) [0, 1] rfl ?_
  have hR63 : ∀ x, x < 12 → 0 ≤ sp_sum SH SL (ns + th) x ∧ sp_sum SH SL (ns + th) x ≤ 63 := fun x _ => by have := sp_sum_b (SH := SH) (SL := SL) (ns + th) (fun y hy => (hS y hy).2.2) x; omega
  have hR99 : ∀ x, x < 12 → 0 ≤ sp_sum SH SL (ns + th) x ∧ sp_sum SH SL (ns + th) x ≤ 99 := fun x hx => by have := hR63 x hx; omega
  refine jw_iconst (pc := 0) C dX6_tideAt_0 ?_
  refine jw_istore_n (pc := 1) (lv' := [(2, .int (jI 0)), (0, .ref g), (1, .int (jI ((i : Nat) : Int)))]) C dX6_tideAt_1 (by decide) rfl ?_
  refine jw_iconst (pc := 2) C dX6_tideAt_2 ?_
  refine jw_istore_n (pc := 3) (lv' := [(3, .int (jI 0)), (2, .int (jI 0)), (0, .ref g), (1, .int (jI ((i : Nat) : Int)))]) C dX6_tideAt_3 (by decide) rfl ?_
  have lp_4_1 : ∀ (fu : Nat) (j : Nat) (ac : Int), (j ≤ ns + th) → (ac = sp_sum SH SL j i) → (0 ≤ ac ∧ ac ≤ 9 * ((j : Nat) : Int)) → ns + th - j < fu → jW X 4 [(0, .ref g), (1, .int (jI ((i : Nat) : Int))), (2, .int (jI ac)), (3, .int (jI ((j : Nat) : Int)))] [] [oM g co ((nh : Nat) : Int) qk qv ((ns : Nat) : Int) qh ql ch ((hd : Nat) : Int) q9 q10 q11 q12 ((pl : Nat) : Int) qp iw nw nz ((th : Nat) : Int) sd qs ik kc ((ks : Nat) : Int) kg ((kh : Nat) : Int) k26 k27 k28 k29 k30 k31 k32 hx, aI cI qh 7 SH, aI cI ql 7 SL] := by
    intro fu
    induction fu with
    | zero => intro j ac hj hac hab hm; exact absurd hm (Nat.not_lt_zero _)
    | succ fu ih_2 =>
      intro j ac hj hac hab hm
      refine jw_iload_n (pc := 4) C dX6_tideAt_4 3 rfl ?_
      refine jw_aload_n (pc := 5) C dX6_tideAt_5 0 rfl ?_
      refine jw_get (pc := 6) C hi_X6_tideAt_X6 0 rfl rfl 4 (by decide) fl_X6_tideAt_97 rfl rfl dX6_tideAt_6 ?_
      refine jw_aload_n (pc := 9) C dX6_tideAt_9 0 rfl ?_
      refine jw_get (pc := 10) C hi_X6_tideAt_X6 0 rfl rfl 18 (by decide) fl_X6_tideAt_109 rfl rfl dX6_tideAt_10 ?_
      refine jw_iadd (pc := 13) (z := ((ns + th : Nat) : Int)) C dX6_tideAt_13 (by omega) ?_
      refine jw_icmp_ge (pc := 14) (tgt := 69) C dX6_tideAt_14 (by decide) (by omega) (by omega) (fun c_14 => ?_) (fun c_14 => ?_)
      · -- 14 t
        rw [show j = ns + th by omega] at hac
        refine jw_iload_n (pc := 69) C dX6_tideAt_69 2 rfl ?_
        refine jw_bipush (pc := 70) C dX6_tideAt_70 (by decide +kernel) ?_
        refine jw_icmp_le (pc := 72) (tgt := 80) C dX6_tideAt_72 (by decide) (by omega) (by omega) (fun c_72 => ?_) (fun c_72 => ?_)
        · -- 72 t
          refine jw_iload_n (pc := 80) C dX6_tideAt_80 2 rfl ?_
          exact jw_iretR (pc := 81) C E dX6_tideAt_81 (congrArg jI (by rw [hac] at *; unfold sp_cap; (repeat' split) <;> omega))
        · -- 72 f
          refine jw_bipush (pc := 75) C dX6_tideAt_75 (by decide +kernel) ?_
          refine jw_goto (pc := 77) (tgt := 81) C dX6_tideAt_77 (by decide) ?_
          exact jw_iretR (pc := 81) C E dX6_tideAt_81 (congrArg jI (by rw [hac] at *; unfold sp_cap; (repeat' split) <;> omega))
      · -- 14 f
        have hs_j := hS j (by omega)
        refine jw_iload_n (pc := 17) C dX6_tideAt_17 1 rfl ?_
        refine jw_aload_n (pc := 18) C dX6_tideAt_18 0 rfl ?_
        refine jw_get (pc := 19) C hi_X6_tideAt_X6 0 rfl rfl 5 (by decide) fl_X6_tideAt_16 rfl rfl dX6_tideAt_19 ?_
        refine jw_iload_n (pc := 22) C dX6_tideAt_22 3 rfl ?_
        refine jw_iald (pc := 23) C (f := SH) 1 j rfl rfl (by omega) (by decide) dX6_tideAt_23 ?_
        refine jw_isub (pc := 24) (z := (((i : Nat) : Int) - (SH j))) C dX6_tideAt_24 rfl ?_
        refine jw_istore (pc := 25) (lv' := [(4, .int (jI (((i : Nat) : Int) - (SH j)))), (0, .ref g), (1, .int (jI ((i : Nat) : Int))), (2, .int (jI ac)), (3, .int (jI ((j : Nat) : Int)))]) C dX6_tideAt_25 (by decide) rfl ?_
        refine jw_iload (pc := 27) C dX6_tideAt_27 0 rfl ?_
        refine jw_if_ge (pc := 29) (tgt := 36) C dX6_tideAt_29 (by decide) (by omega) (fun c_29 => ?_) (fun c_29 => ?_)
        · -- 29 t
          refine jw_aload_n (pc := 36) C dX6_tideAt_36 1 rfl ?_
          refine jw_get (pc := 37) C hi_X6_tideAt_X6 0 rfl rfl 6 (by decide) fl_X6_tideAt_19 rfl rfl dX6_tideAt_37 ?_
          refine jw_iload_n (pc := 40) C dX6_tideAt_40 4 rfl ?_
          refine jw_iald (pc := 41) C (f := SL) 2 j rfl rfl (by omega) (by decide) dX6_tideAt_41 ?_
          refine jw_iconst (pc := 42) C dX6_tideAt_42 ?_
          refine jw_iload (pc := 43) C dX6_tideAt_43 0 rfl ?_
          refine jw_imul (pc := 45) (z := (2 * (((i : Nat) : Int) - (SH j)))) C dX6_tideAt_45 rfl ?_
          refine jw_isub (pc := 46) (z := ((SL j) - (2 * (((i : Nat) : Int) - (SH j))))) C dX6_tideAt_46 rfl ?_
          refine jw_istore (pc := 47) (lv' := [(5, .int (jI ((SL j) - (2 * (((i : Nat) : Int) - (SH j)))))), (4, .int (jI (((i : Nat) : Int) - (SH j)))), (0, .ref g), (1, .int (jI ((i : Nat) : Int))), (2, .int (jI ac)), (3, .int (jI ((j : Nat) : Int)))]) C dX6_tideAt_47 (by decide) rfl ?_
          refine jw_iload_n (pc := 49) C dX6_tideAt_49 4 rfl ?_
          refine jw_iload (pc := 50) C dX6_tideAt_50 0 rfl ?_
          refine jw_if_le (pc := 52) (tgt := 60) C dX6_tideAt_52 (by decide) (by omega) (fun c_52 => ?_) (fun c_52 => ?_)
          · -- 52 t
            refine jw_iconst (pc := 60) C dX6_tideAt_60 ?_
            refine jw_iadd (pc := 61) (z := (ac + 0)) C dX6_tideAt_61 rfl ?_
            refine jw_istore_n (pc := 62) (lv' := [(2, .int (jI (ac + 0))), (5, .int (jI ((SL j) - (2 * (((i : Nat) : Int) - (SH j)))))), (4, .int (jI (((i : Nat) : Int) - (SH j)))), (0, .ref g), (1, .int (jI ((i : Nat) : Int))), (3, .int (jI ((j : Nat) : Int)))]) C dX6_tideAt_62 (by decide) rfl ?_
            refine jw_iinc (pc := 63) (z := ((j + 1 : Nat) : Int)) (lv' := [(3, .int (jI ((j + 1 : Nat) : Int))), (2, .int (jI (ac + 0))), (5, .int (jI ((SL j) - (2 * (((i : Nat) : Int) - (SH j)))))), (4, .int (jI (((i : Nat) : Int) - (SH j)))), (0, .ref g), (1, .int (jI ((i : Nat) : Int)))]) C dX6_tideAt_63 5 rfl (by omega) (by decide) rfl ?_
            refine jw_goto (pc := 66) (tgt := 4) C dX6_tideAt_66 (by decide) ?_
            refine jw_lv [4, 5, 1, 0] rfl ?_
            exact ih_2 (j + 1) ((ac + 0)) (by omega) (by show _ = sp_sum SH SL j i + sp_con (SH j) (SL j) i; rw [← hac]; unfold sp_con; (repeat' split) <;> omega) (by omega) (by omega)
          · -- 52 f
            refine jw_iload (pc := 55) C dX6_tideAt_55 0 rfl ?_
            refine jw_goto (pc := 57) (tgt := 61) C dX6_tideAt_57 (by decide) ?_
            refine jw_iadd (pc := 61) (z := (ac + ((SL j) - (2 * (((i : Nat) : Int) - (SH j)))))) C dX6_tideAt_61 rfl ?_
            refine jw_istore_n (pc := 62) (lv' := [(2, .int (jI (ac + ((SL j) - (2 * (((i : Nat) : Int) - (SH j))))))), (5, .int (jI ((SL j) - (2 * (((i : Nat) : Int) - (SH j)))))), (4, .int (jI (((i : Nat) : Int) - (SH j)))), (0, .ref g), (1, .int (jI ((i : Nat) : Int))), (3, .int (jI ((j : Nat) : Int)))]) C dX6_tideAt_62 (by decide) rfl ?_
            refine jw_iinc (pc := 63) (z := ((j + 1 : Nat) : Int)) (lv' := [(3, .int (jI ((j + 1 : Nat) : Int))), (2, .int (jI (ac + ((SL j) - (2 * (((i : Nat) : Int) - (SH j))))))), (5, .int (jI ((SL j) - (2 * (((i : Nat) : Int) - (SH j)))))), (4, .int (jI (((i : Nat) : Int) - (SH j)))), (0, .ref g), (1, .int (jI ((i : Nat) : Int)))]) C dX6_tideAt_63 5 rfl (by omega) (by decide) rfl ?_
            refine jw_goto (pc := 66) (tgt := 4) C dX6_tideAt_66 (by decide) ?_
            refine jw_lv [4, 5, 1, 0] rfl ?_
            exact ih_2 (j + 1) ((ac + ((SL j) - (2 * (((i : Nat) : Int) - (SH j)))))) (by omega) (by show _ = sp_sum SH SL j i + sp_con (SH j) (SL j) i; rw [← hac]; unfold sp_con; (repeat' split) <;> omega) (by omega) (by omega)
        · -- 29 f
          refine jw_iconst (pc := 32) C dX6_tideAt_32 ?_
          refine jw_goto (pc := 33) (tgt := 47) C dX6_tideAt_33 (by decide) ?_
          refine jw_istore (pc := 47) (lv' := [(5, .int (jI 0)), (4, .int (jI (((i : Nat) : Int) - (SH j)))), (0, .ref g), (1, .int (jI ((i : Nat) : Int))), (2, .int (jI ac)), (3, .int (jI ((j : Nat) : Int)))]) C dX6_tideAt_47 (by decide) rfl ?_
          refine jw_iload_n (pc := 49) C dX6_tideAt_49 4 rfl ?_
          refine jw_iload (pc := 50) C dX6_tideAt_50 0 rfl ?_
          refine jw_if_le (pc := 52) (tgt := 60) C dX6_tideAt_52 (by decide) (by omega) (fun c_52 => ?_) (fun c_52 => (by exfalso; omega))
          refine jw_iconst (pc := 60) C dX6_tideAt_60 ?_
          refine jw_iadd (pc := 61) (z := (ac + 0)) C dX6_tideAt_61 rfl ?_
          refine jw_istore_n (pc := 62) (lv' := [(2, .int (jI (ac + 0))), (5, .int (jI 0)), (4, .int (jI (((i : Nat) : Int) - (SH j)))), (0, .ref g), (1, .int (jI ((i : Nat) : Int))), (3, .int (jI ((j : Nat) : Int)))]) C dX6_tideAt_62 (by decide) rfl ?_
          refine jw_iinc (pc := 63) (z := ((j + 1 : Nat) : Int)) (lv' := [(3, .int (jI ((j + 1 : Nat) : Int))), (2, .int (jI (ac + 0))), (5, .int (jI 0)), (4, .int (jI (((i : Nat) : Int) - (SH j)))), (0, .ref g), (1, .int (jI ((i : Nat) : Int)))]) C dX6_tideAt_63 5 rfl (by omega) (by decide) rfl ?_
          refine jw_goto (pc := 66) (tgt := 4) C dX6_tideAt_66 (by decide) ?_
          refine jw_lv [4, 5, 1, 0] rfl ?_
          exact ih_2 (j + 1) ((ac + 0)) (by omega) (by show _ = sp_sum SH SL j i + sp_con (SH j) (SL j) i; rw [← hac]; unfold sp_con; (repeat' split) <;> omega) (by omega) (by omega)
  refine jw_lv [2, 3, 1, 0] rfl ?_
  exact lp_4_1 ((ns + th - 0) + 1) 0 0 (by omega) rfl (by omega) (Nat.lt_succ_self _)
def rmX6_tideBefore : Room := { frames := 1, cells := 0, slots := 0, locals := 25 }
set_option maxHeartbeats 4000000 in
set_option maxRecDepth 100000 in
theorem con_X6_tideBefore (lau : Launch) (D : va_G) (cI cB : ClassId) (g : Nat) (co : Int) (nh : Nat) (qk : Nat) (qv : Nat) (ns : Nat) (qh : Nat) (ql : Nat) (ch : Int) (hd : Nat) (q9 : Nat) (q10 : Nat) (q11 : Nat) (q12 : Nat) (pl : Nat) (qp : Nat) (iw : Int) (nw : Int) (nz : Int) (th : Nat) (sd : Int64) (qs : Nat) (ik : Int) (kc : Int) (ks : Nat) (kg : Int) (kh : Nat) (k26 : Nat) (k27 : Nat) (k28 : Nat) (k29 : Nat) (k30 : Nat) (k31 : Nat) (k32 : Nat) (hx : Int64) (SH : Nat → Int) (SL : Nat → Int) (i : Nat) (hns : ns ≤ 6) (hth : th ≤ 1) (hS : ∀ x, x < ns + th → 0 ≤ SH x ∧ SH x ≤ 9 ∧ 0 ≤ SL x ∧ SL x ≤ 9) (hi : i < 12) : jMR lau yX6_tideBefore wsX6_tideBefore rmX6_tideBefore D cI cB [.ref g, .int (jI ((i : Nat) : Int))] [oM g co ((nh : Nat) : Int) qk qv ((ns : Nat) : Int) qh ql ch ((hd : Nat) : Int) q9 q10 q11 q12 ((pl : Nat) : Int) qp iw nw nz ((th : Nat) : Int) sd qs ik kc ((ks : Nat) : Int) kg ((kh : Nat) : Int) k26 k27 k28 k29 k30 k31 k32 hx, aI cI qh 7 SH, aI cI ql 7 SL] (.int (jI (sp_at (sp_sum SH SL (ns + th)) (((i : Nat) : Int) - 1)))) := by
  refine jMR.of (own := RX6) (cc := cX6_tideBefore) (maxL := 2) (ret := (some .int)) rfl (by decide) rfl (Nat.le_of_ble_eq_true rfl) ?_
  intro X C E
  refine jw_lv (lv' := [(0, .ref g), (1, .int (jI ((i : Nat) : Int)))]) [0, 1] rfl ?_
  have hR63 : ∀ x, x < 12 → 0 ≤ sp_sum SH SL (ns + th) x ∧ sp_sum SH SL (ns + th) x ≤ 63 := fun x _ => by have := sp_sum_b (SH := SH) (SL := SL) (ns + th) (fun y hy => (hS y hy).2.2) x; omega
  have hR99 : ∀ x, x < 12 → 0 ≤ sp_sum SH SL (ns + th) x ∧ sp_sum SH SL (ns + th) x ≤ 99 := fun x hx => by have := hR63 x hx; omega
  refine jw_iload_n (pc := 0) C dX6_tideBefore_0 1 rfl ?_
  refine jw_if_ne (pc := 1) (tgt := 8) C dX6_tideBefore_1 (by decide) (by omega) (fun c_1 => ?_) (fun c_1 => ?_)
  · -- 1 t
    refine jw_aload_n (pc := 8) C dX6_tideBefore_8 0 rfl ?_
    refine jw_iload_n (pc := 9) C dX6_tideBefore_9 1 rfl ?_
    refine jw_iconst (pc := 10) C dX6_tideBefore_10 ?_
    refine jw_isub (pc := 11) (z := ((i - 1 : Nat) : Int)) C dX6_tideBefore_11 (by omega) ?_
    refine jw_callRV (pc := 12) C [.int (jI (((i - 1) : Nat) : Int))] [] 1 (con_X6_tideAt lau D cI cB g co nh qk qv ns qh ql ch hd q9 q10 q11 q12 pl qp iw nw nz th sd qs ik kc ks kg kh k26 k27 k28 k29 k30 k31 k32 hx SH SL (i - 1) (by omega) (by omega) hS (by omega)) gX6_tideBefore_X6_tideAt rfl rfl rfl (by decide +kernel) ⟨Nat.le_of_ble_eq_true rfl, Nat.le_of_ble_eq_true rfl⟩ 0 rfl rfl [0, 1, 2] rfl rfl (Nat.le_of_ble_eq_true rfl) rfl dX6_tideBefore_12 ?_
    have b_12_0 := (show 0 ≤ sp_cap (sp_sum SH SL (ns + th) (i - 1)) ∧ sp_cap (sp_sum SH SL (ns + th) (i - 1)) ≤ 20 from sp_cap_b (sp_sum_b (ns + th) (fun y hy => (hS y hy).2.2) (i - 1)).1)
    exact jw_iretR (pc := 15) C E dX6_tideBefore_15 (congrArg jI (by unfold sp_at; first | (rw [if_pos (by omega)]; done) | (rw [if_neg (by omega), show (((i : Nat) : Int) - 1).toNat = i - 1 by omega]; done)))
  · -- 1 f
    refine jw_iconst (pc := 4) C dX6_tideBefore_4 ?_
    refine jw_goto (pc := 5) (tgt := 15) C dX6_tideBefore_5 (by decide) ?_
    exact jw_iretR (pc := 15) C E dX6_tideBefore_15 (congrArg jI (by unfold sp_at; first | (rw [if_pos (by omega)]; done) | (rw [if_neg (by omega), show (((i : Nat) : Int) - 1).toNat = i - 1 by omega]; done)))
theorem fl_X6_mannersAt_7 : Cond.fieldLink RX6 7 "GongTideModel" "kindOf" "[I" ∈ wsX6_mannersAt := by decide +kernel
theorem fl_X6_mannersAt_13 : Cond.fieldLink RX6 13 "GongTideModel" "levelOf" "[I" ∈ wsX6_mannersAt := by decide +kernel
theorem hi_X6_mannersAt_X6 : ∀ w ∈ wsX60, w ∈ wsX6_mannersAt := fun w h => List.mem_cons_of_mem _ (List.mem_append_right _ h)
def rmX6_mannersAt : Room := { frames := 2, cells := 0, slots := 0, locals := 46 }
set_option maxHeartbeats 4000000 in
set_option maxRecDepth 100000 in
theorem con_X6_mannersAt (lau : Launch) (D : va_G) (cI cB : ClassId) (g : Nat) (co : Int) (nh : Nat) (qk : Nat) (qv : Nat) (ns : Nat) (qh : Nat) (ql : Nat) (ch : Int) (hd : Nat) (q9 : Nat) (q10 : Nat) (q11 : Nat) (q12 : Nat) (pl : Nat) (qp : Nat) (iw : Int) (nw : Int) (nz : Int) (th : Nat) (sd : Int64) (qs : Nat) (ik : Int) (kc : Int) (ks : Nat) (kg : Int) (kh : Nat) (k26 : Nat) (k27 : Nat) (k28 : Nat) (k29 : Nat) (k30 : Nat) (k31 : Nat) (k32 : Nat) (hx : Int64) (K : Nat → Int) (V : Nat → Int) (SH : Nat → Int) (SL : Nat → Int) (k : Nat) (i : Nat) (hns : ns ≤ 6) (hth : th ≤ 1) (hS : ∀ x, x < ns + th → 0 ≤ SH x ∧ SH x ≤ 9 ∧ 0 ≤ SL x ∧ SL x ≤ 9) (hK : ∀ x, x < 5 → 0 ≤ K x ∧ K x ≤ 4) (hV : ∀ x, x < 5 → 0 ≤ V x ∧ V x ≤ 9) (hk : k < 5) (hi : i < 12) : jMR lau yX6_mannersAt wsX6_mannersAt rmX6_mannersAt D cI cB [.ref g, .int (jI ((k : Nat) : Int)), .int (jI ((i : Nat) : Int))] [oM g co ((nh : Nat) : Int) qk qv ((ns : Nat) : Int) qh ql ch ((hd : Nat) : Int) q9 q10 q11 q12 ((pl : Nat) : Int) qp iw nw nz ((th : Nat) : Int) sd qs ik kc ((ks : Nat) : Int) kg ((kh : Nat) : Int) k26 k27 k28 k29 k30 k31 k32 hx, aI cI qk 5 K, aI cI qv 5 V, aI cI qh 7 SH, aI cI ql 7 SL] (.int (jI (sp_mann (K k) (V k) (sp_sum SH SL (ns + th)) i))) := by
  refine jMR.of (own := RX6) (cc := cX6_mannersAt) (maxL := 4) (ret := (some .int)) rfl (by decide) rfl (Nat.le_of_ble_eq_true rfl) ?_
  intro X C E
  refine jw_lv (lv' := [(0, .ref g), (1, .int (jI ((k : Nat) : Int))), (2, .int (jI ((i : Nat) : Int)))]) [0, 1, 2] rfl ?_
  have hR63 : ∀ x, x < 12 → 0 ≤ sp_sum SH SL (ns + th) x ∧ sp_sum SH SL (ns + th) x ≤ 63 := fun x _ => by have := sp_sum_b (SH := SH) (SL := SL) (ns + th) (fun y hy => (hS y hy).2.2) x; omega
  have hR99 : ∀ x, x < 12 → 0 ≤ sp_sum SH SL (ns + th) x ∧ sp_sum SH SL (ns + th) x ≤ 99 := fun x hx => by have := hR63 x hx; omega
  have hvk := hV k hk
  have hl3 := sp_less_n (V k) 3
  have hl4 : sp_less (V k) 3 ≤ 9 := by unfold sp_less; split <;> omega
  have hkk := hK k hk
  have hat := sp_at_b hR99 (z := ((i : Nat) : Int) - 1) (by omega)
  have hca := sp_cap_b (hR99 i hi).1
  refine jw_aload_n (pc := 0) C dX6_mannersAt_0 0 rfl ?_
  refine jw_get (pc := 1) C hi_X6_mannersAt_X6 0 rfl rfl 3 (by decide) fl_X6_mannersAt_13 rfl rfl dX6_mannersAt_1 ?_
  refine jw_iload_n (pc := 4) C dX6_mannersAt_4 1 rfl ?_
  refine jw_iald (pc := 5) C (f := V) 2 k rfl rfl (by omega) (by decide) dX6_mannersAt_5 ?_
  refine jw_istore_n (pc := 6) (lv' := [(3, .int (jI (V k))), (0, .ref g), (1, .int (jI ((k : Nat) : Int))), (2, .int (jI ((i : Nat) : Int)))]) C dX6_mannersAt_6 (by decide) rfl ?_
  refine jw_aload_n (pc := 7) C dX6_mannersAt_7 1 rfl ?_
  refine jw_get (pc := 8) C hi_X6_mannersAt_X6 0 rfl rfl 2 (by decide) fl_X6_mannersAt_7 rfl rfl dX6_mannersAt_8 ?_
  refine jw_iload_n (pc := 11) C dX6_mannersAt_11 2 rfl ?_
  refine jw_iald (pc := 12) C (f := K) 1 k rfl rfl (by omega) (by decide) dX6_mannersAt_12 ?_
  by_cases sw_13_1 : (K k) = 1
  · -- case 1
    refine jw_table (pc := 13) (tgt := 44) C dX6_mannersAt_13 (by omega) (by omega) (by omega) (by rw [sw_13_1]; rfl) (by decide) ?_
    refine jw_aload_n (pc := 44) C dX6_mannersAt_44 1 rfl ?_
    refine jw_iload_n (pc := 45) C dX6_mannersAt_45 3 rfl ?_
    refine jw_callRV (pc := 46) C [.int (jI ((i : Nat) : Int))] [] 1 (con_X6_tideAt lau D cI cB g co nh qk qv ns qh ql ch hd q9 q10 q11 q12 pl qp iw nw nz th sd qs ik kc ks kg kh k26 k27 k28 k29 k30 k31 k32 hx SH SL i (by omega) (by omega) hS (by omega)) gX6_mannersAt_X6_tideAt rfl rfl rfl (by decide +kernel) ⟨Nat.le_of_ble_eq_true rfl, Nat.le_of_ble_eq_true rfl⟩ 0 rfl rfl [0, 3, 4] rfl rfl (Nat.le_of_ble_eq_true rfl) rfl dX6_mannersAt_46 ?_
    have b_46_0 := (show 0 ≤ sp_cap (sp_sum SH SL (ns + th) i) ∧ sp_cap (sp_sum SH SL (ns + th) i) ≤ 20 from sp_cap_b (sp_sum_b (ns + th) (fun y hy => (hS y hy).2.2) i).1)
    refine jw_iload_n (pc := 49) C dX6_mannersAt_49 0 rfl ?_
    refine jw_iconst (pc := 50) C dX6_mannersAt_50 ?_
    refine jw_callRS (pc := 51) C [.int (jI (((V k)))), .int (jI 3)] [.int (jI (sp_cap ((sp_sum SH SL (ns + th)) i)))] 2 (con_X6_less lau D cI cB ((V k)) 3 (by omega) (by omega)) gX6_mannersAt_X6_less rfl rfl rfl (by decide +kernel) ⟨Nat.le_of_ble_eq_true rfl, Nat.le_of_ble_eq_true rfl⟩ [] rfl rfl (Nat.le_of_ble_eq_true rfl) rfl dX6_mannersAt_51 ?_
    have b_51_0 := sp_less_n ((V k)) 3
    refine jw_callRS (pc := 54) C [.int (jI (((sp_cap ((sp_sum SH SL (ns + th)) i))))), .int (jI (((sp_less ((V k)) 3))))] [] 2 (con_X6_less lau D cI cB ((sp_cap ((sp_sum SH SL (ns + th)) i))) ((sp_less ((V k)) 3)) (by omega) (by omega)) gX6_mannersAt_X6_less rfl rfl rfl (by decide +kernel) ⟨Nat.le_of_ble_eq_true rfl, Nat.le_of_ble_eq_true rfl⟩ [] rfl rfl (Nat.le_of_ble_eq_true rfl) rfl dX6_mannersAt_54 ?_
    have b_54_0 := sp_less_n ((sp_cap ((sp_sum SH SL (ns + th)) i))) ((sp_less ((V k)) 3))
    exact jw_iretR (pc := 57) C E dX6_mannersAt_57 (congrArg jI (by unfold sp_mann; (repeat' split) <;> first | rfl | omega))
  ·
    by_cases sw_13_2 : (K k) = 2
    · -- case 2
      refine jw_table (pc := 13) (tgt := 72) C dX6_mannersAt_13 (by omega) (by omega) (by omega) (by rw [sw_13_2]; rfl) (by decide) ?_
      refine jw_aload_n (pc := 72) C dX6_mannersAt_72 1 rfl ?_
      refine jw_iload_n (pc := 73) C dX6_mannersAt_73 3 rfl ?_
      refine jw_callRV (pc := 74) C [.int (jI ((i : Nat) : Int))] [] 1 (con_X6_tideBefore lau D cI cB g co nh qk qv ns qh ql ch hd q9 q10 q11 q12 pl qp iw nw nz th sd qs ik kc ks kg kh k26 k27 k28 k29 k30 k31 k32 hx SH SL i (by omega) (by omega) hS (by omega)) gX6_mannersAt_X6_tideBefore rfl rfl rfl (by decide +kernel) ⟨Nat.le_of_ble_eq_true rfl, Nat.le_of_ble_eq_true rfl⟩ 0 rfl rfl [0, 3, 4] rfl rfl (Nat.le_of_ble_eq_true rfl) rfl dX6_mannersAt_74 ?_
      refine jw_aload_n (pc := 77) C dX6_mannersAt_77 1 rfl ?_
      refine jw_iload_n (pc := 78) C dX6_mannersAt_78 3 rfl ?_
      refine jw_callRV (pc := 79) C [.int (jI ((i : Nat) : Int))] [.int (jI (sp_at (sp_sum SH SL (ns + th)) (((i : Nat) : Int) - 1)))] 1 (con_X6_tideAt lau D cI cB g co nh qk qv ns qh ql ch hd q9 q10 q11 q12 pl qp iw nw nz th sd qs ik kc ks kg kh k26 k27 k28 k29 k30 k31 k32 hx SH SL i (by omega) (by omega) hS (by omega)) gX6_mannersAt_X6_tideAt rfl rfl rfl (by decide +kernel) ⟨Nat.le_of_ble_eq_true rfl, Nat.le_of_ble_eq_true rfl⟩ 0 rfl rfl [0, 3, 4] rfl rfl (Nat.le_of_ble_eq_true rfl) rfl dX6_mannersAt_79 ?_
      have b_79_0 := (show 0 ≤ sp_cap (sp_sum SH SL (ns + th) i) ∧ sp_cap (sp_sum SH SL (ns + th) i) ≤ 20 from sp_cap_b (sp_sum_b (ns + th) (fun y hy => (hS y hy).2.2) i).1)
      refine jw_icmp_ge (pc := 82) (tgt := 93) C dX6_mannersAt_82 (by decide) (by omega) (by omega) (fun c_82 => ?_) (fun c_82 => ?_)
      · -- 82 t
        refine jw_aload_n (pc := 93) C dX6_mannersAt_93 1 rfl ?_
        refine jw_iload_n (pc := 94) C dX6_mannersAt_94 3 rfl ?_
        refine jw_callRV (pc := 95) C [.int (jI ((i : Nat) : Int))] [] 1 (con_X6_tideAt lau D cI cB g co nh qk qv ns qh ql ch hd q9 q10 q11 q12 pl qp iw nw nz th sd qs ik kc ks kg kh k26 k27 k28 k29 k30 k31 k32 hx SH SL i (by omega) (by omega) hS (by omega)) gX6_mannersAt_X6_tideAt rfl rfl rfl (by decide +kernel) ⟨Nat.le_of_ble_eq_true rfl, Nat.le_of_ble_eq_true rfl⟩ 0 rfl rfl [0, 3, 4] rfl rfl (Nat.le_of_ble_eq_true rfl) rfl dX6_mannersAt_95 ?_
        have b_95_0 := (show 0 ≤ sp_cap (sp_sum SH SL (ns + th) i) ∧ sp_cap (sp_sum SH SL (ns + th) i) ≤ 20 from sp_cap_b (sp_sum_b (ns + th) (fun y hy => (hS y hy).2.2) i).1)
        refine jw_iload_n (pc := 98) C dX6_mannersAt_98 0 rfl ?_
        refine jw_callRS (pc := 99) C [.int (jI (((sp_cap ((sp_sum SH SL (ns + th)) i))))), .int (jI (((V k))))] [] 2 (con_X6_less lau D cI cB ((sp_cap ((sp_sum SH SL (ns + th)) i))) ((V k)) (by omega) (by omega)) gX6_mannersAt_X6_less rfl rfl rfl (by decide +kernel) ⟨Nat.le_of_ble_eq_true rfl, Nat.le_of_ble_eq_true rfl⟩ [] rfl rfl (Nat.le_of_ble_eq_true rfl) rfl dX6_mannersAt_99 ?_
        have b_99_0 := sp_less_n ((sp_cap ((sp_sum SH SL (ns + th)) i))) ((V k))
        exact jw_iretR (pc := 102) C E dX6_mannersAt_102 (congrArg jI (by unfold sp_mann; (repeat' split) <;> first | rfl | omega))
      · -- 82 f
        refine jw_aload_n (pc := 85) C dX6_mannersAt_85 1 rfl ?_
        refine jw_iload_n (pc := 86) C dX6_mannersAt_86 3 rfl ?_
        refine jw_callRV (pc := 87) C [.int (jI ((i : Nat) : Int))] [] 1 (con_X6_tideBefore lau D cI cB g co nh qk qv ns qh ql ch hd q9 q10 q11 q12 pl qp iw nw nz th sd qs ik kc ks kg kh k26 k27 k28 k29 k30 k31 k32 hx SH SL i (by omega) (by omega) hS (by omega)) gX6_mannersAt_X6_tideBefore rfl rfl rfl (by decide +kernel) ⟨Nat.le_of_ble_eq_true rfl, Nat.le_of_ble_eq_true rfl⟩ 0 rfl rfl [0, 3, 4] rfl rfl (Nat.le_of_ble_eq_true rfl) rfl dX6_mannersAt_87 ?_
        refine jw_goto (pc := 90) (tgt := 98) C dX6_mannersAt_90 (by decide) ?_
        refine jw_iload_n (pc := 98) C dX6_mannersAt_98 0 rfl ?_
        refine jw_callRS (pc := 99) C [.int (jI (((sp_at (sp_sum SH SL (ns + th)) (((i : Nat) : Int) - 1))))), .int (jI (((V k))))] [] 2 (con_X6_less lau D cI cB ((sp_at (sp_sum SH SL (ns + th)) (((i : Nat) : Int) - 1))) ((V k)) (by omega) (by omega)) gX6_mannersAt_X6_less rfl rfl rfl (by decide +kernel) ⟨Nat.le_of_ble_eq_true rfl, Nat.le_of_ble_eq_true rfl⟩ [] rfl rfl (Nat.le_of_ble_eq_true rfl) rfl dX6_mannersAt_99 ?_
        have b_99_0 := sp_less_n ((sp_at (sp_sum SH SL (ns + th)) (((i : Nat) : Int) - 1))) ((V k))
        exact jw_iretR (pc := 102) C E dX6_mannersAt_102 (congrArg jI (by unfold sp_mann; (repeat' split) <;> first | rfl | omega))
    ·
      by_cases sw_13_3 : (K k) = 3
      · -- case 3
        refine jw_table (pc := 13) (tgt := 103) C dX6_mannersAt_13 (by omega) (by omega) (by omega) (by rw [sw_13_3]; rfl) (by decide) ?_
        refine jw_iload_n (pc := 103) C dX6_mannersAt_103 3 rfl ?_
        refine jw_iconst (pc := 104) C dX6_mannersAt_104 ?_
        refine jw_irem (pc := 105) C (jI ((i % 2 : Nat) : Int)) dX6_mannersAt_105 (jI_ne0 (by omega)) (by rw [jI_rem (by omega) (by omega)]; exact congrArg jI (by omega)) ?_
        refine jw_if_ne (pc := 106) (tgt := 113) C dX6_mannersAt_106 (by decide) (by omega) (fun c_106 => ?_) (fun c_106 => ?_)
        · -- 106 t
          refine jw_iconst (pc := 113) C dX6_mannersAt_113 ?_
          exact jw_iretR (pc := 114) C E dX6_mannersAt_114 (congrArg jI (by unfold sp_mann; (repeat' split) <;> first | rfl | omega))
        · -- 106 f
          refine jw_iconst (pc := 109) C dX6_mannersAt_109 ?_
          refine jw_goto (pc := 110) (tgt := 114) C dX6_mannersAt_110 (by decide) ?_
          exact jw_iretR (pc := 114) C E dX6_mannersAt_114 (congrArg jI (by unfold sp_mann; (repeat' split) <;> first | rfl | omega))
      ·
        by_cases sw_13_4 : (K k) = 4
        · -- case 4
          refine jw_table (pc := 13) (tgt := 58) C dX6_mannersAt_13 (by omega) (by omega) (by omega) (by rw [sw_13_4]; rfl) (by decide) ?_
          refine jw_aload_n (pc := 58) C dX6_mannersAt_58 1 rfl ?_
          refine jw_iload_n (pc := 59) C dX6_mannersAt_59 3 rfl ?_
          refine jw_callRV (pc := 60) C [.int (jI ((i : Nat) : Int))] [] 1 (con_X6_tideBefore lau D cI cB g co nh qk qv ns qh ql ch hd q9 q10 q11 q12 pl qp iw nw nz th sd qs ik kc ks kg kh k26 k27 k28 k29 k30 k31 k32 hx SH SL i (by omega) (by omega) hS (by omega)) gX6_mannersAt_X6_tideBefore rfl rfl rfl (by decide +kernel) ⟨Nat.le_of_ble_eq_true rfl, Nat.le_of_ble_eq_true rfl⟩ 0 rfl rfl [0, 3, 4] rfl rfl (Nat.le_of_ble_eq_true rfl) rfl dX6_mannersAt_60 ?_
          refine jw_iload_n (pc := 63) C dX6_mannersAt_63 0 rfl ?_
          refine jw_iconst (pc := 64) C dX6_mannersAt_64 ?_
          refine jw_callRS (pc := 65) C [.int (jI (((V k)))), .int (jI 3)] [.int (jI (sp_at (sp_sum SH SL (ns + th)) (((i : Nat) : Int) - 1)))] 2 (con_X6_less lau D cI cB ((V k)) 3 (by omega) (by omega)) gX6_mannersAt_X6_less rfl rfl rfl (by decide +kernel) ⟨Nat.le_of_ble_eq_true rfl, Nat.le_of_ble_eq_true rfl⟩ [] rfl rfl (Nat.le_of_ble_eq_true rfl) rfl dX6_mannersAt_65 ?_
          have b_65_0 := sp_less_n ((V k)) 3
          refine jw_callRS (pc := 68) C [.int (jI (((sp_at (sp_sum SH SL (ns + th)) (((i : Nat) : Int) - 1))))), .int (jI (((sp_less ((V k)) 3))))] [] 2 (con_X6_less lau D cI cB ((sp_at (sp_sum SH SL (ns + th)) (((i : Nat) : Int) - 1))) ((sp_less ((V k)) 3)) (by omega) (by omega)) gX6_mannersAt_X6_less rfl rfl rfl (by decide +kernel) ⟨Nat.le_of_ble_eq_true rfl, Nat.le_of_ble_eq_true rfl⟩ [] rfl rfl (Nat.le_of_ble_eq_true rfl) rfl dX6_mannersAt_68 ?_
          have b_68_0 := sp_less_n ((sp_at (sp_sum SH SL (ns + th)) (((i : Nat) : Int) - 1))) ((sp_less ((V k)) 3))
          exact jw_iretR (pc := 71) C E dX6_mannersAt_71 (congrArg jI (by unfold sp_mann; (repeat' split) <;> first | rfl | omega))
        ·
          refine jw_tableOut (pc := 13) (tgt := 115) C dX6_mannersAt_13 (by omega) (by omega) (by decide) ?_
          refine jw_aload_n (pc := 115) C dX6_mannersAt_115 1 rfl ?_
          refine jw_iload_n (pc := 116) C dX6_mannersAt_116 3 rfl ?_
          refine jw_callRV (pc := 117) C [.int (jI ((i : Nat) : Int))] [] 1 (con_X6_tideAt lau D cI cB g co nh qk qv ns qh ql ch hd q9 q10 q11 q12 pl qp iw nw nz th sd qs ik kc ks kg kh k26 k27 k28 k29 k30 k31 k32 hx SH SL i (by omega) (by omega) hS (by omega)) gX6_mannersAt_X6_tideAt rfl rfl rfl (by decide +kernel) ⟨Nat.le_of_ble_eq_true rfl, Nat.le_of_ble_eq_true rfl⟩ 0 rfl rfl [0, 3, 4] rfl rfl (Nat.le_of_ble_eq_true rfl) rfl dX6_mannersAt_117 ?_
          have b_117_0 := (show 0 ≤ sp_cap (sp_sum SH SL (ns + th) i) ∧ sp_cap (sp_sum SH SL (ns + th) i) ≤ 20 from sp_cap_b (sp_sum_b (ns + th) (fun y hy => (hS y hy).2.2) i).1)
          refine jw_iload_n (pc := 120) C dX6_mannersAt_120 0 rfl ?_
          refine jw_callRS (pc := 121) C [.int (jI (((sp_cap ((sp_sum SH SL (ns + th)) i))))), .int (jI (((V k))))] [] 2 (con_X6_less lau D cI cB ((sp_cap ((sp_sum SH SL (ns + th)) i))) ((V k)) (by omega) (by omega)) gX6_mannersAt_X6_less rfl rfl rfl (by decide +kernel) ⟨Nat.le_of_ble_eq_true rfl, Nat.le_of_ble_eq_true rfl⟩ [] rfl rfl (Nat.le_of_ble_eq_true rfl) rfl dX6_mannersAt_121 ?_
          have b_121_0 := sp_less_n ((sp_cap ((sp_sum SH SL (ns + th)) i))) ((V k))
          exact jw_iretR (pc := 124) C E dX6_mannersAt_124 (congrArg jI (by unfold sp_mann; (repeat' split) <;> first | rfl | omega))
def rmX6_howAt : Room := { frames := 3, cells := 0, slots := 0, locals := 69 }
set_option maxHeartbeats 4000000 in
set_option maxRecDepth 100000 in
theorem con_X6_howAt (lau : Launch) (D : va_G) (cI cB : ClassId) (g : Nat) (co : Int) (nh : Nat) (qk : Nat) (qv : Nat) (ns : Nat) (qh : Nat) (ql : Nat) (ch : Int) (hd : Nat) (q9 : Nat) (q10 : Nat) (q11 : Nat) (q12 : Nat) (pl : Nat) (qp : Nat) (iw : Int) (nw : Int) (nz : Int) (th : Nat) (sd : Int64) (qs : Nat) (ik : Int) (kc : Int) (ks : Nat) (kg : Int) (kh : Nat) (k26 : Nat) (k27 : Nat) (k28 : Nat) (k29 : Nat) (k30 : Nat) (k31 : Nat) (k32 : Nat) (hx : Int64) (K : Nat → Int) (V : Nat → Int) (SH : Nat → Int) (SL : Nat → Int) (k : Nat) (i : Nat) (hns : ns ≤ 6) (hth : th ≤ 1) (hS : ∀ x, x < ns + th → 0 ≤ SH x ∧ SH x ≤ 9 ∧ 0 ≤ SL x ∧ SL x ≤ 9) (hK : ∀ x, x < 5 → 0 ≤ K x ∧ K x ≤ 4) (hV : ∀ x, x < 5 → 0 ≤ V x ∧ V x ≤ 9) (hk : k < 5) (hi : i < 12) : jMR lau yX6_howAt wsX6_howAt rmX6_howAt D cI cB [.ref g, .int (jI ((k : Nat) : Int)), .int (jI ((i : Nat) : Int))] [oM g co ((nh : Nat) : Int) qk qv ((ns : Nat) : Int) qh ql ch ((hd : Nat) : Int) q9 q10 q11 q12 ((pl : Nat) : Int) qp iw nw nz ((th : Nat) : Int) sd qs ik kc ((ks : Nat) : Int) kg ((kh : Nat) : Int) k26 k27 k28 k29 k30 k31 k32 hx, aI cI qk 5 K, aI cI qv 5 V, aI cI qh 7 SH, aI cI ql 7 SL] (.int (jI (sp_hw (K k) (V k) (sp_sum SH SL (ns + th)) i))) := by
  refine jMR.of (own := RX6) (cc := cX6_howAt) (maxL := 4) (ret := (some .int)) rfl (by decide) rfl (Nat.le_of_ble_eq_true rfl) ?_
  intro X C E
  refine jw_lv (lv' := [(0, .ref g), (1, .int (jI ((k : Nat) : Int))), (2, .int (jI ((i : Nat) : Int)))]) [0, 1, 2] rfl ?_
  have hR63 : ∀ x, x < 12 → 0 ≤ sp_sum SH SL (ns + th) x ∧ sp_sum SH SL (ns + th) x ≤ 63 := fun x _ => by have := sp_sum_b (SH := SH) (SL := SL) (ns + th) (fun y hy => (hS y hy).2.2) x; omega
  have hR99 : ∀ x, x < 12 → 0 ≤ sp_sum SH SL (ns + th) x ∧ sp_sum SH SL (ns + th) x ≤ 99 := fun x hx => by have := hR63 x hx; omega
  have hmb := sp_mann_b (kd := K k) hR99 hi (hV k hk)
  refine jw_aload_n (pc := 0) C dX6_howAt_0 0 rfl ?_
  refine jw_iload_n (pc := 1) C dX6_howAt_1 1 rfl ?_
  refine jw_iload_n (pc := 2) C dX6_howAt_2 2 rfl ?_
  refine jw_callRV (pc := 3) C [.int (jI ((k : Nat) : Int)), .int (jI ((i : Nat) : Int))] [] 2 (con_X6_mannersAt lau D cI cB g co nh qk qv ns qh ql ch hd q9 q10 q11 q12 pl qp iw nw nz th sd qs ik kc ks kg kh k26 k27 k28 k29 k30 k31 k32 hx K V SH SL k i (by omega) (by omega) hS hK hV (by omega) (by omega)) gX6_howAt_X6_mannersAt rfl rfl rfl (by decide +kernel) ⟨Nat.le_of_ble_eq_true rfl, Nat.le_of_ble_eq_true rfl⟩ 0 rfl rfl [0, 1, 2, 3, 4] rfl rfl (Nat.le_of_ble_eq_true rfl) rfl dX6_howAt_3 ?_
  refine jw_istore_n (pc := 6) (lv' := [(3, .int (jI (sp_mann (K k) (V k) (sp_sum SH SL (ns + th)) i))), (0, .ref g), (1, .int (jI ((k : Nat) : Int))), (2, .int (jI ((i : Nat) : Int)))]) C dX6_howAt_6 (by decide) rfl ?_
  refine jw_iload_n (pc := 7) C dX6_howAt_7 0 rfl ?_
  refine jw_if_ne (pc := 8) (tgt := 15) C dX6_howAt_8 (by decide) (by omega) (fun c_8 => ?_) (fun c_8 => ?_)
  · -- 8 t
    refine jw_iload_n (pc := 15) C dX6_howAt_15 0 rfl ?_
    refine jw_iconst (pc := 16) C dX6_howAt_16 ?_
    refine jw_icmp_ge (pc := 17) (tgt := 24) C dX6_howAt_17 (by decide) (by omega) (by omega) (fun c_17 => ?_) (fun c_17 => ?_)
    · -- 17 t
      refine jw_iconst (pc := 24) C dX6_howAt_24 ?_
      exact jw_iretR (pc := 25) C E dX6_howAt_25 (congrArg jI (by unfold sp_hw sp_how; (repeat' split) <;> omega))
    · -- 17 f
      refine jw_iconst (pc := 20) C dX6_howAt_20 ?_
      refine jw_goto (pc := 21) (tgt := 25) C dX6_howAt_21 (by decide) ?_
      exact jw_iretR (pc := 25) C E dX6_howAt_25 (congrArg jI (by unfold sp_hw sp_how; (repeat' split) <;> omega))
  · -- 8 f
    refine jw_iconst (pc := 11) C dX6_howAt_11 ?_
    refine jw_goto (pc := 12) (tgt := 25) C dX6_howAt_12 (by decide) ?_
    exact jw_iretR (pc := 25) C E dX6_howAt_25 (congrArg jI (by unfold sp_hw sp_how; (repeat' split) <;> omega))
def rmX6_hoursOf : Room := { frames := 4, cells := 0, slots := 0, locals := 92 }
set_option maxHeartbeats 4000000 in
set_option maxRecDepth 100000 in
theorem con_X6_hoursOf (lau : Launch) (D : va_G) (cI cB : ClassId) (g : Nat) (co : Int) (nh : Nat) (qk : Nat) (qv : Nat) (ns : Nat) (qh : Nat) (ql : Nat) (ch : Int) (hd : Nat) (q9 : Nat) (q10 : Nat) (q11 : Nat) (q12 : Nat) (pl : Nat) (qp : Nat) (iw : Int) (nw : Int) (nz : Int) (th : Nat) (sd : Int64) (qs : Nat) (ik : Int) (kc : Int) (ks : Nat) (kg : Int) (kh : Nat) (k26 : Nat) (k27 : Nat) (k28 : Nat) (k29 : Nat) (k30 : Nat) (k31 : Nat) (k32 : Nat) (hx : Int64) (K : Nat → Int) (V : Nat → Int) (SH : Nat → Int) (SL : Nat → Int) (k : Nat) (c : Int) (hns : ns ≤ 6) (hth : th ≤ 1) (hS : ∀ x, x < ns + th → 0 ≤ SH x ∧ SH x ≤ 9 ∧ 0 ≤ SL x ∧ SL x ≤ 9) (hK : ∀ x, x < 5 → 0 ≤ K x ∧ K x ≤ 4) (hV : ∀ x, x < 5 → 0 ≤ V x ∧ V x ≤ 9) (hk : k < 5) (hc : -2147483648 ≤ c ∧ c < 2147483648) : jMR lau yX6_hoursOf wsX6_hoursOf rmX6_hoursOf D cI cB [.ref g, .int (jI ((k : Nat) : Int)), .int (jI c)] [oM g co ((nh : Nat) : Int) qk qv ((ns : Nat) : Int) qh ql ch ((hd : Nat) : Int) q9 q10 q11 q12 ((pl : Nat) : Int) qp iw nw nz ((th : Nat) : Int) sd qs ik kc ((ks : Nat) : Int) kg ((kh : Nat) : Int) k26 k27 k28 k29 k30 k31 k32 hx, aI cI qk 5 K, aI cI qv 5 V, aI cI qh 7 SH, aI cI ql 7 SL] (.int (jI ((sp_ho (K k) (V k) (sp_sum SH SL (ns + th)) c : Nat) : Int))) := by
  refine jMR.of (own := RX6) (cc := cX6_hoursOf) (maxL := 5) (ret := (some .int)) rfl (by decide) rfl (Nat.le_of_ble_eq_true rfl) ?_
  intro X C E
  refine jw_lv (lv' := [(0, .ref g), (1, .int (jI ((k : Nat) : Int))), (2, .int (jI c))]) [0, 1, 2] rfl ?_
  refine jw_iconst (pc := 0) C dX6_hoursOf_0 ?_
  refine jw_istore_n (pc := 1) (lv' := [(3, .int (jI 0)), (0, .ref g), (1, .int (jI ((k : Nat) : Int))), (2, .int (jI c))]) C dX6_hoursOf_1 (by decide) rfl ?_
  refine jw_iconst (pc := 2) C dX6_hoursOf_2 ?_
  refine jw_istore (pc := 3) (lv' := [(4, .int (jI 0)), (3, .int (jI 0)), (0, .ref g), (1, .int (jI ((k : Nat) : Int))), (2, .int (jI c))]) C dX6_hoursOf_3 (by decide) rfl ?_
  have lp_5_1 : ∀ (fu : Nat) (i : Nat) (m : Nat), (i ≤ 12) → (m = sp_cnt (sp_is (K k) (V k) (sp_sum SH SL (ns + th)) c) i) → 12 - i < fu → jW X 5 [(0, .ref g), (1, .int (jI ((k : Nat) : Int))), (2, .int (jI c)), (3, .int (jI ((m : Nat) : Int))), (4, .int (jI ((i : Nat) : Int)))] [] [oM g co ((nh : Nat) : Int) qk qv ((ns : Nat) : Int) qh ql ch ((hd : Nat) : Int) q9 q10 q11 q12 ((pl : Nat) : Int) qp iw nw nz ((th : Nat) : Int) sd qs ik kc ((ks : Nat) : Int) kg ((kh : Nat) : Int) k26 k27 k28 k29 k30 k31 k32 hx, aI cI qk 5 K, aI cI qv 5 V, aI cI qh 7 SH, aI cI ql 7 SL] := by
    intro fu
    induction fu with
    | zero => intro i m hi hm0 hm; exact absurd hm (Nat.not_lt_zero _)
    | succ fu ih_2 =>
      intro i m hi hm0 hm
      refine jw_iload (pc := 5) C dX6_hoursOf_5 4 rfl ?_
      refine jw_bipush (pc := 7) C dX6_hoursOf_7 (by decide +kernel) ?_
      refine jw_icmp_ge (pc := 9) (tgt := 37) C dX6_hoursOf_9 (by decide) (by omega) (by omega) (fun c_9 => ?_) (fun c_9 => ?_)
      · -- 9 t
        refine jw_iload_n (pc := 37) C dX6_hoursOf_37 3 rfl ?_
        exact jw_iretR (pc := 38) C E dX6_hoursOf_38 (by rw [hm0, show i = 12 by omega]; rfl)
      · -- 9 f
        refine jw_iload_n (pc := 12) C dX6_hoursOf_12 3 rfl ?_
        refine jw_aload_n (pc := 13) C dX6_hoursOf_13 0 rfl ?_
        refine jw_iload_n (pc := 14) C dX6_hoursOf_14 1 rfl ?_
        refine jw_iload (pc := 15) C dX6_hoursOf_15 4 rfl ?_
        refine jw_callRV (pc := 17) C [.int (jI ((k : Nat) : Int)), .int (jI ((i : Nat) : Int))] [.int (jI ((m : Nat) : Int))] 2 (con_X6_howAt lau D cI cB g co nh qk qv ns qh ql ch hd q9 q10 q11 q12 pl qp iw nw nz th sd qs ik kc ks kg kh k26 k27 k28 k29 k30 k31 k32 hx K V SH SL k i (by omega) (by omega) hS hK hV (by omega) (by omega)) gX6_hoursOf_X6_howAt rfl rfl rfl (by decide +kernel) ⟨Nat.le_of_ble_eq_true rfl, Nat.le_of_ble_eq_true rfl⟩ 0 rfl rfl [0, 1, 2, 3, 4] rfl rfl (Nat.le_of_ble_eq_true rfl) rfl dX6_hoursOf_17 ?_
        have b_17_0 := sp_hw_b (K k) (V k) (sp_sum SH SL (ns + th)) i
        refine jw_iload_n (pc := 20) C dX6_hoursOf_20 2 rfl ?_
        refine jw_icmp_ne (pc := 21) (tgt := 28) C dX6_hoursOf_21 (by decide) (by omega) (by omega) (fun c_21 => ?_) (fun c_21 => ?_)
        · -- 21 t
          refine jw_iconst (pc := 28) C dX6_hoursOf_28 ?_
          refine jw_iadd (pc := 29) (z := ((m + 0 : Nat) : Int)) C dX6_hoursOf_29 (by omega) ?_
          refine jw_istore_n (pc := 30) (lv' := [(3, .int (jI ((m + 0 : Nat) : Int))), (0, .ref g), (1, .int (jI ((k : Nat) : Int))), (2, .int (jI c)), (4, .int (jI ((i : Nat) : Int)))]) C dX6_hoursOf_30 (by decide) rfl ?_
          refine jw_iinc (pc := 31) (z := ((i + 1 : Nat) : Int)) (lv' := [(4, .int (jI ((i + 1 : Nat) : Int))), (3, .int (jI ((m + 0 : Nat) : Int))), (0, .ref g), (1, .int (jI ((k : Nat) : Int))), (2, .int (jI c))]) C dX6_hoursOf_31 4 rfl (by omega) (by decide) rfl ?_
          refine jw_goto (pc := 34) (tgt := 5) C dX6_hoursOf_34 (by decide) ?_
          refine jw_lv [2, 3, 4, 1, 0] rfl ?_
          exact ih_2 (i + 1) (m + 0) (by omega) (by rw [hm0]; first | exact (sp_cnt_t (s := sp_is (K k) (V k) (sp_sum SH SL (ns + th)) c) (decide_eq_true c_21)).symm | exact (sp_cnt_f (s := sp_is (K k) (V k) (sp_sum SH SL (ns + th)) c) (fun q => c_21 (of_decide_eq_true q))).symm) (by omega)
        · -- 21 f
          refine jw_iconst (pc := 24) C dX6_hoursOf_24 ?_
          refine jw_goto (pc := 25) (tgt := 29) C dX6_hoursOf_25 (by decide) ?_
          refine jw_iadd (pc := 29) (z := ((m + 1 : Nat) : Int)) C dX6_hoursOf_29 (by omega) ?_
          refine jw_istore_n (pc := 30) (lv' := [(3, .int (jI ((m + 1 : Nat) : Int))), (0, .ref g), (1, .int (jI ((k : Nat) : Int))), (2, .int (jI c)), (4, .int (jI ((i : Nat) : Int)))]) C dX6_hoursOf_30 (by decide) rfl ?_
          refine jw_iinc (pc := 31) (z := ((i + 1 : Nat) : Int)) (lv' := [(4, .int (jI ((i + 1 : Nat) : Int))), (3, .int (jI ((m + 1 : Nat) : Int))), (0, .ref g), (1, .int (jI ((k : Nat) : Int))), (2, .int (jI c))]) C dX6_hoursOf_31 4 rfl (by omega) (by decide) rfl ?_
          refine jw_goto (pc := 34) (tgt := 5) C dX6_hoursOf_34 (by decide) ?_
          refine jw_lv [2, 3, 4, 1, 0] rfl ?_
          exact ih_2 (i + 1) (m + 1) (by omega) (by rw [hm0]; first | exact (sp_cnt_t (s := sp_is (K k) (V k) (sp_sum SH SL (ns + th)) c) (decide_eq_true c_21)).symm | exact (sp_cnt_f (s := sp_is (K k) (V k) (sp_sum SH SL (ns + th)) c) (fun q => c_21 (of_decide_eq_true q))).symm) (by omega)
  refine jw_lv [2, 3, 4, 1, 0] rfl ?_
  exact lp_5_1 ((12 - 0) + 1) 0 0 (by omega) rfl (Nat.lt_succ_self _)
theorem fl_X6_hoursAll_94 : Cond.fieldLink RX6 94 "GongTideModel" "houses" "I" ∈ wsX6_hoursAll := by decide +kernel
theorem hi_X6_hoursAll_X6 : ∀ w ∈ wsX60, w ∈ wsX6_hoursAll := fun w h => List.mem_cons_of_mem _ (List.mem_append_right _ h)
def rmX6_hoursAll : Room := { frames := 5, cells := 0, slots := 0, locals := 116 }
set_option maxHeartbeats 4000000 in
set_option maxRecDepth 100000 in
theorem con_X6_hoursAll (lau : Launch) (D : va_G) (cI cB : ClassId) (g : Nat) (co : Int) (nh : Nat) (qk : Nat) (qv : Nat) (ns : Nat) (qh : Nat) (ql : Nat) (ch : Int) (hd : Nat) (q9 : Nat) (q10 : Nat) (q11 : Nat) (q12 : Nat) (pl : Nat) (qp : Nat) (iw : Int) (nw : Int) (nz : Int) (th : Nat) (sd : Int64) (qs : Nat) (ik : Int) (kc : Int) (ks : Nat) (kg : Int) (kh : Nat) (k26 : Nat) (k27 : Nat) (k28 : Nat) (k29 : Nat) (k30 : Nat) (k31 : Nat) (k32 : Nat) (hx : Int64) (K : Nat → Int) (V : Nat → Int) (SH : Nat → Int) (SL : Nat → Int) (c : Int) (hnh : nh ≤ 5) (hns : ns ≤ 6) (hth : th ≤ 1) (hS : ∀ x, x < ns + th → 0 ≤ SH x ∧ SH x ≤ 9 ∧ 0 ≤ SL x ∧ SL x ≤ 9) (hK : ∀ x, x < 5 → 0 ≤ K x ∧ K x ≤ 4) (hV : ∀ x, x < 5 → 0 ≤ V x ∧ V x ≤ 9) (hc : -2147483648 ≤ c ∧ c < 2147483648) : jMR lau yX6_hoursAll wsX6_hoursAll rmX6_hoursAll D cI cB [.ref g, .int (jI c)] [oM g co ((nh : Nat) : Int) qk qv ((ns : Nat) : Int) qh ql ch ((hd : Nat) : Int) q9 q10 q11 q12 ((pl : Nat) : Int) qp iw nw nz ((th : Nat) : Int) sd qs ik kc ((ks : Nat) : Int) kg ((kh : Nat) : Int) k26 k27 k28 k29 k30 k31 k32 hx, aI cI qk 5 K, aI cI qv 5 V, aI cI qh 7 SH, aI cI ql 7 SL] (.int (jI ((sp_all K V (sp_sum SH SL (ns + th)) c nh : Nat) : Int))) := by
  refine jMR.of (own := RX6) (cc := cX6_hoursAll) (maxL := 4) (ret := (some .int)) rfl (by decide) rfl (Nat.le_of_ble_eq_true rfl) ?_
  intro X C E
  refine jw_lv (lv' := [(0, .ref g), (1, .int (jI c))]) [0, 1] rfl ?_
  refine jw_iconst (pc := 0) C dX6_hoursAll_0 ?_
  refine jw_istore_n (pc := 1) (lv' := [(2, .int (jI 0)), (0, .ref g), (1, .int (jI c))]) C dX6_hoursAll_1 (by decide) rfl ?_
  refine jw_iconst (pc := 2) C dX6_hoursAll_2 ?_
  refine jw_istore_n (pc := 3) (lv' := [(3, .int (jI 0)), (2, .int (jI 0)), (0, .ref g), (1, .int (jI c))]) C dX6_hoursAll_3 (by decide) rfl ?_
  have lp_4_1 : ∀ (fu : Nat) (x : Nat) (m : Nat), (x ≤ nh) → (m = sp_all K V (sp_sum SH SL (ns + th)) c x) → nh - x < fu → jW X 4 [(0, .ref g), (1, .int (jI c)), (2, .int (jI ((m : Nat) : Int))), (3, .int (jI ((x : Nat) : Int)))] [] [oM g co ((nh : Nat) : Int) qk qv ((ns : Nat) : Int) qh ql ch ((hd : Nat) : Int) q9 q10 q11 q12 ((pl : Nat) : Int) qp iw nw nz ((th : Nat) : Int) sd qs ik kc ((ks : Nat) : Int) kg ((kh : Nat) : Int) k26 k27 k28 k29 k30 k31 k32 hx, aI cI qk 5 K, aI cI qv 5 V, aI cI qh 7 SH, aI cI ql 7 SL] := by
    intro fu
    induction fu with
    | zero => intro x m hi hm0 hm; exact absurd hm (Nat.not_lt_zero _)
    | succ fu ih_2 =>
      intro x m hi hm0 hm
      refine jw_iload_n (pc := 4) C dX6_hoursAll_4 3 rfl ?_
      refine jw_aload_n (pc := 5) C dX6_hoursAll_5 0 rfl ?_
      refine jw_get (pc := 6) C hi_X6_hoursAll_X6 0 rfl rfl 1 (by decide) fl_X6_hoursAll_94 rfl rfl dX6_hoursAll_6 ?_
      refine jw_icmp_ge (pc := 9) (tgt := 27) C dX6_hoursAll_9 (by decide) (by omega) (by omega) (fun c_9 => ?_) (fun c_9 => ?_)
      · -- 9 t
        refine jw_iload_n (pc := 27) C dX6_hoursAll_27 2 rfl ?_
        exact jw_iretR (pc := 28) C E dX6_hoursAll_28 (by rw [hm0, show x = nh by omega])
      · -- 9 f
        refine jw_iload_n (pc := 12) C dX6_hoursAll_12 2 rfl ?_
        refine jw_aload_n (pc := 13) C dX6_hoursAll_13 0 rfl ?_
        refine jw_iload_n (pc := 14) C dX6_hoursAll_14 3 rfl ?_
        refine jw_iload_n (pc := 15) C dX6_hoursAll_15 1 rfl ?_
        refine jw_callRV (pc := 16) C [.int (jI ((x : Nat) : Int)), .int (jI c)] [.int (jI ((m : Nat) : Int))] 2 (con_X6_hoursOf lau D cI cB g co nh qk qv ns qh ql ch hd q9 q10 q11 q12 pl qp iw nw nz th sd qs ik kc ks kg kh k26 k27 k28 k29 k30 k31 k32 hx K V SH SL x c (by omega) (by omega) hS hK hV (by omega) (by omega)) gX6_hoursAll_X6_hoursOf rfl rfl rfl (by decide +kernel) ⟨Nat.le_of_ble_eq_true rfl, Nat.le_of_ble_eq_true rfl⟩ 0 rfl rfl [0, 1, 2, 3, 4] rfl rfl (Nat.le_of_ble_eq_true rfl) rfl dX6_hoursAll_16 ?_
        have b_16_0 := sp_ho_b (K x) (V x) (sp_sum SH SL (ns + th)) c
        refine jw_iadd (pc := 19) (z := ((m + (sp_ho (K x) (V x) (sp_sum SH SL (ns + th)) c) : Nat) : Int)) C dX6_hoursAll_19 (by omega) ?_
        refine jw_istore_n (pc := 20) (lv' := [(2, .int (jI ((m + (sp_ho (K x) (V x) (sp_sum SH SL (ns + th)) c) : Nat) : Int))), (0, .ref g), (1, .int (jI c)), (3, .int (jI ((x : Nat) : Int)))]) C dX6_hoursAll_20 (by decide) rfl ?_
        refine jw_iinc (pc := 21) (z := ((x + 1 : Nat) : Int)) (lv' := [(3, .int (jI ((x + 1 : Nat) : Int))), (2, .int (jI ((m + (sp_ho (K x) (V x) (sp_sum SH SL (ns + th)) c) : Nat) : Int))), (0, .ref g), (1, .int (jI c))]) C dX6_hoursAll_21 3 rfl (by omega) (by decide) rfl ?_
        refine jw_goto (pc := 24) (tgt := 4) C dX6_hoursAll_24 (by decide) ?_
        refine jw_lv [2, 3, 1, 0] rfl ?_
        exact ih_2 (x + 1) (m + (sp_ho (K x) (V x) (sp_sum SH SL (ns + th)) c)) (by omega) (by rw [hm0]; rfl) (by omega)
  refine jw_lv [2, 3, 1, 0] rfl ?_
  exact lp_4_1 ((nh - 0) + 1) 0 0 (by omega) rfl (Nat.lt_succ_self _)
def rmX6_greatestHour : Room := { frames := 3, cells := 0, slots := 0, locals := 69 }
set_option maxHeartbeats 4000000 in
set_option maxRecDepth 100000 in
theorem con_X6_greatestHour (lau : Launch) (D : va_G) (cI cB : ClassId) (g : Nat) (co : Int) (nh : Nat) (qk : Nat) (qv : Nat) (ns : Nat) (qh : Nat) (ql : Nat) (ch : Int) (hd : Nat) (q9 : Nat) (q10 : Nat) (q11 : Nat) (q12 : Nat) (pl : Nat) (qp : Nat) (iw : Int) (nw : Int) (nz : Int) (th : Nat) (sd : Int64) (qs : Nat) (ik : Int) (kc : Int) (ks : Nat) (kg : Int) (kh : Nat) (k26 : Nat) (k27 : Nat) (k28 : Nat) (k29 : Nat) (k30 : Nat) (k31 : Nat) (k32 : Nat) (hx : Int64) (K : Nat → Int) (V : Nat → Int) (SH : Nat → Int) (SL : Nat → Int) (k : Nat) (hns : ns ≤ 6) (hth : th ≤ 1) (hS : ∀ x, x < ns + th → 0 ≤ SH x ∧ SH x ≤ 9 ∧ 0 ≤ SL x ∧ SL x ≤ 9) (hK : ∀ x, x < 5 → 0 ≤ K x ∧ K x ≤ 4) (hV : ∀ x, x < 5 → 0 ≤ V x ∧ V x ≤ 9) (hk : k < 5) : jMR lau yX6_greatestHour wsX6_greatestHour rmX6_greatestHour D cI cB [.ref g, .int (jI ((k : Nat) : Int))] [oM g co ((nh : Nat) : Int) qk qv ((ns : Nat) : Int) qh ql ch ((hd : Nat) : Int) q9 q10 q11 q12 ((pl : Nat) : Int) qp iw nw nz ((th : Nat) : Int) sd qs ik kc ((ks : Nat) : Int) kg ((kh : Nat) : Int) k26 k27 k28 k29 k30 k31 k32 hx, aI cI qk 5 K, aI cI qv 5 V, aI cI qh 7 SH, aI cI ql 7 SL] (.int (jI ((sp_gh (K k) (V k) (sp_sum SH SL (ns + th)) 11 : Nat) : Int))) := by
  refine jMR.of (own := RX6) (cc := cX6_greatestHour) (maxL := 4) (ret := (some .int)) rfl (by decide) rfl (Nat.le_of_ble_eq_true rfl) ?_
  intro X C E
  refine jw_lv (lv' := [(0, .ref g), (1, .int (jI ((k : Nat) : Int)))]) [0, 1] rfl ?_
  have hR63 : ∀ x, x < 12 → 0 ≤ sp_sum SH SL (ns + th) x ∧ sp_sum SH SL (ns + th) x ≤ 63 := fun x _ => by have := sp_sum_b (SH := SH) (SL := SL) (ns + th) (fun y hy => (hS y hy).2.2) x; omega
  have hR99 : ∀ x, x < 12 → 0 ≤ sp_sum SH SL (ns + th) x ∧ sp_sum SH SL (ns + th) x ≤ 99 := fun x hx => by have := hR63 x hx; omega
  refine jw_iconst (pc := 0) C dX6_greatestHour_0 ?_
  refine jw_istore_n (pc := 1) (lv' := [(2, .int (jI 0)), (0, .ref g), (1, .int (jI ((k : Nat) : Int)))]) C dX6_greatestHour_1 (by decide) rfl ?_
  refine jw_iconst (pc := 2) C dX6_greatestHour_2 ?_
  refine jw_istore_n (pc := 3) (lv' := [(3, .int (jI 1)), (2, .int (jI 0)), (0, .ref g), (1, .int (jI ((k : Nat) : Int)))]) C dX6_greatestHour_3 (by decide) rfl ?_
  have lp_4_1 : ∀ (fu : Nat) (i : Nat) (b : Nat), (1 ≤ i ∧ i ≤ 12) → (b = sp_gh (K k) (V k) (sp_sum SH SL (ns + th)) (i - 1)) → (b < i) → 12 - i < fu → jW X 4 [(0, .ref g), (1, .int (jI ((k : Nat) : Int))), (2, .int (jI ((b : Nat) : Int))), (3, .int (jI ((i : Nat) : Int)))] [] [oM g co ((nh : Nat) : Int) qk qv ((ns : Nat) : Int) qh ql ch ((hd : Nat) : Int) q9 q10 q11 q12 ((pl : Nat) : Int) qp iw nw nz ((th : Nat) : Int) sd qs ik kc ((ks : Nat) : Int) kg ((kh : Nat) : Int) k26 k27 k28 k29 k30 k31 k32 hx, aI cI qk 5 K, aI cI qv 5 V, aI cI qh 7 SH, aI cI ql 7 SL] := by
    intro fu
    induction fu with
    | zero => intro i b hi hb0 hb12 hm; exact absurd hm (Nat.not_lt_zero _)
    | succ fu ih_2 =>
      intro i b hi hb0 hb12 hm
      refine jw_iload_n (pc := 4) C dX6_greatestHour_4 3 rfl ?_
      refine jw_bipush (pc := 5) C dX6_greatestHour_5 (by decide +kernel) ?_
      refine jw_icmp_ge (pc := 7) (tgt := 37) C dX6_greatestHour_7 (by decide) (by omega) (by omega) (fun c_7 => ?_) (fun c_7 => ?_)
      · -- 7 t
        refine jw_iload_n (pc := 37) C dX6_greatestHour_37 2 rfl ?_
        exact jw_iretR (pc := 38) C E dX6_greatestHour_38 (by rw [hb0, show i = 12 by omega])
      · -- 7 f
        refine jw_aload_n (pc := 10) C dX6_greatestHour_10 0 rfl ?_
        refine jw_iload_n (pc := 11) C dX6_greatestHour_11 1 rfl ?_
        refine jw_iload_n (pc := 12) C dX6_greatestHour_12 3 rfl ?_
        refine jw_callRV (pc := 13) C [.int (jI ((k : Nat) : Int)), .int (jI ((i : Nat) : Int))] [] 2 (con_X6_mannersAt lau D cI cB g co nh qk qv ns qh ql ch hd q9 q10 q11 q12 pl qp iw nw nz th sd qs ik kc ks kg kh k26 k27 k28 k29 k30 k31 k32 hx K V SH SL k i (by omega) (by omega) hS hK hV (by omega) (by omega)) gX6_greatestHour_X6_mannersAt rfl rfl rfl (by decide +kernel) ⟨Nat.le_of_ble_eq_true rfl, Nat.le_of_ble_eq_true rfl⟩ 0 rfl rfl [0, 1, 2, 3, 4] rfl rfl (Nat.le_of_ble_eq_true rfl) rfl dX6_greatestHour_13 ?_
        have hm1 := sp_mann_b (kd := K k) hR99 (show i < 12 by omega) (hV k hk)
        refine jw_aload_n (pc := 16) C dX6_greatestHour_16 0 rfl ?_
        refine jw_iload_n (pc := 17) C dX6_greatestHour_17 1 rfl ?_
        refine jw_iload_n (pc := 18) C dX6_greatestHour_18 2 rfl ?_
        refine jw_callRV (pc := 19) C [.int (jI ((k : Nat) : Int)), .int (jI ((b : Nat) : Int))] [.int (jI (sp_mann (K k) (V k) (sp_sum SH SL (ns + th)) i))] 2 (con_X6_mannersAt lau D cI cB g co nh qk qv ns qh ql ch hd q9 q10 q11 q12 pl qp iw nw nz th sd qs ik kc ks kg kh k26 k27 k28 k29 k30 k31 k32 hx K V SH SL k b (by omega) (by omega) hS hK hV (by omega) (by omega)) gX6_greatestHour_X6_mannersAt rfl rfl rfl (by decide +kernel) ⟨Nat.le_of_ble_eq_true rfl, Nat.le_of_ble_eq_true rfl⟩ 0 rfl rfl [0, 1, 2, 3, 4] rfl rfl (Nat.le_of_ble_eq_true rfl) rfl dX6_greatestHour_19 ?_
        have hm2 := sp_mann_b (kd := K k) hR99 (show b < 12 by omega) (hV k hk)
        refine jw_icmp_le (pc := 22) (tgt := 29) C dX6_greatestHour_22 (by decide) (by omega) (by omega) (fun c_22 => ?_) (fun c_22 => ?_)
        · -- 22 t
          refine jw_iload_n (pc := 29) C dX6_greatestHour_29 2 rfl ?_
          refine jw_istore_n (pc := 30) (lv' := [(2, .int (jI ((b : Nat) : Int))), (0, .ref g), (1, .int (jI ((k : Nat) : Int))), (3, .int (jI ((i : Nat) : Int)))]) C dX6_greatestHour_30 (by decide) rfl ?_
          refine jw_iinc (pc := 31) (z := ((i + 1 : Nat) : Int)) (lv' := [(3, .int (jI ((i + 1 : Nat) : Int))), (2, .int (jI ((b : Nat) : Int))), (0, .ref g), (1, .int (jI ((k : Nat) : Int)))]) C dX6_greatestHour_31 3 rfl (by omega) (by decide) rfl ?_
          refine jw_goto (pc := 34) (tgt := 4) C dX6_greatestHour_34 (by decide) ?_
          refine jw_lv [2, 3, 1, 0] rfl ?_
          exact ih_2 (i + 1) b (by omega) (by show _ = sp_gh (K k) (V k) (sp_sum SH SL (ns + th)) i; first | (rw [sp_gh_t (by omega) (by rw [← hb0]; omega)]; done) | (rw [sp_gh_f (by omega) (by rw [← hb0]; omega), hb0]; done)) (by omega) (by omega)
        · -- 22 f
          refine jw_iload_n (pc := 25) C dX6_greatestHour_25 3 rfl ?_
          refine jw_goto (pc := 26) (tgt := 30) C dX6_greatestHour_26 (by decide) ?_
          refine jw_istore_n (pc := 30) (lv' := [(2, .int (jI ((i : Nat) : Int))), (0, .ref g), (1, .int (jI ((k : Nat) : Int))), (3, .int (jI ((i : Nat) : Int)))]) C dX6_greatestHour_30 (by decide) rfl ?_
          refine jw_iinc (pc := 31) (z := ((i + 1 : Nat) : Int)) (lv' := [(3, .int (jI ((i + 1 : Nat) : Int))), (2, .int (jI ((i : Nat) : Int))), (0, .ref g), (1, .int (jI ((k : Nat) : Int)))]) C dX6_greatestHour_31 3 rfl (by omega) (by decide) rfl ?_
          refine jw_goto (pc := 34) (tgt := 4) C dX6_greatestHour_34 (by decide) ?_
          refine jw_lv [2, 3, 1, 0] rfl ?_
          exact ih_2 (i + 1) i (by omega) (by show _ = sp_gh (K k) (V k) (sp_sum SH SL (ns + th)) i; first | (rw [sp_gh_t (by omega) (by rw [← hb0]; omega)]; done) | (rw [sp_gh_f (by omega) (by rw [← hb0]; omega), hb0]; done)) (by omega) (by omega)
  refine jw_lv [2, 3, 1, 0] rfl ?_
  exact lp_4_1 ((12 - 1) + 1) 1 0 (by omega) rfl (by omega) (Nat.lt_succ_self _)
theorem fl_X6_houseNow_7 : Cond.fieldLink RX6 7 "GongTideModel" "kindOf" "[I" ∈ wsX6_houseNow := by decide +kernel
theorem fl_X6_houseNow_13 : Cond.fieldLink RX6 13 "GongTideModel" "levelOf" "[I" ∈ wsX6_houseNow := by decide +kernel
theorem hi_X6_houseNow_X6 : ∀ w ∈ wsX60, w ∈ wsX6_houseNow := fun w h => List.mem_cons_of_mem _ (List.mem_append_right _ h)
def rmX6_houseNow : Room := { frames := 5, cells := 0, slots := 0, locals := 116 }
set_option maxHeartbeats 4000000 in
set_option maxRecDepth 100000 in
theorem con_X6_houseNow (lau : Launch) (D : va_G) (cI cB : ClassId) (g : Nat) (co : Int) (nh : Nat) (qk : Nat) (qv : Nat) (ns : Nat) (qh : Nat) (ql : Nat) (ch : Int) (hd : Nat) (q9 : Nat) (q10 : Nat) (q11 : Nat) (q12 : Nat) (pl : Nat) (qp : Nat) (iw : Int) (nw : Int) (nz : Int) (th : Nat) (sd : Int64) (qs : Nat) (ik : Int) (kc : Int) (ks : Nat) (kg : Int) (kh : Nat) (k26 : Nat) (k27 : Nat) (k28 : Nat) (k29 : Nat) (k30 : Nat) (k31 : Nat) (k32 : Nat) (hx : Int64) (K : Nat → Int) (V : Nat → Int) (SH : Nat → Int) (SL : Nat → Int) (k : Nat) (w : Int) (hns : ns ≤ 6) (hth : th ≤ 1) (hS : ∀ x, x < ns + th → 0 ≤ SH x ∧ SH x ≤ 9 ∧ 0 ≤ SL x ∧ SL x ≤ 9) (hK : ∀ x, x < 5 → 0 ≤ K x ∧ K x ≤ 4) (hV : ∀ x, x < 5 → 0 ≤ V x ∧ V x ≤ 9) (hk : k < 5) (hwv : (0 ≤ w ∧ w ≤ 4) ∨ (10 ≤ w ∧ w ≤ 21)) : jMR lau yX6_houseNow wsX6_houseNow rmX6_houseNow D cI cB [.ref g, .int (jI ((k : Nat) : Int)), .int (jI w)] [oM g co ((nh : Nat) : Int) qk qv ((ns : Nat) : Int) qh ql ch ((hd : Nat) : Int) q9 q10 q11 q12 ((pl : Nat) : Int) qp iw nw nz ((th : Nat) : Int) sd qs ik kc ((ks : Nat) : Int) kg ((kh : Nat) : Int) k26 k27 k28 k29 k30 k31 k32 hx, aI cI qk 5 K, aI cI qv 5 V, aI cI qh 7 SH, aI cI ql 7 SL] (.int (jI (sp_house (K k) (V k) (sp_sum SH SL (ns + th)) w))) := by
  refine jMR.of (own := RX6) (cc := cX6_houseNow) (maxL := 3) (ret := (some .int)) rfl (by decide) rfl (Nat.le_of_ble_eq_true rfl) ?_
  intro X C E
  refine jw_lv (lv' := [(0, .ref g), (1, .int (jI ((k : Nat) : Int))), (2, .int (jI w))]) [0, 1, 2] rfl ?_
  refine jw_iload_n (pc := 0) C dX6_houseNow_0 2 rfl ?_
  by_cases sw_1_0 : w = 0
  · -- case 0
    refine jw_table (pc := 1) (tgt := 36) C dX6_houseNow_1 (by omega) (by omega) (by omega) (by rw [sw_1_0]; rfl) (by decide) ?_
    refine jw_aload_n (pc := 36) C dX6_houseNow_36 0 rfl ?_
    refine jw_get (pc := 37) C hi_X6_houseNow_X6 0 rfl rfl 2 (by decide) fl_X6_houseNow_7 rfl rfl dX6_houseNow_37 ?_
    refine jw_iload_n (pc := 40) C dX6_houseNow_40 1 rfl ?_
    refine jw_iald (pc := 41) C (f := K) 1 k rfl rfl (by omega) (by decide) dX6_houseNow_41 ?_
    exact jw_iretR (pc := 42) C E dX6_houseNow_42 (congrArg jI (by unfold sp_house; (repeat' split) <;> first | rfl | omega))
  ·
    by_cases sw_1_1 : w = 1
    · -- case 1
      refine jw_table (pc := 1) (tgt := 43) C dX6_houseNow_1 (by omega) (by omega) (by omega) (by rw [sw_1_1]; rfl) (by decide) ?_
      refine jw_aload_n (pc := 43) C dX6_houseNow_43 0 rfl ?_
      refine jw_get (pc := 44) C hi_X6_houseNow_X6 0 rfl rfl 3 (by decide) fl_X6_houseNow_13 rfl rfl dX6_houseNow_44 ?_
      refine jw_iload_n (pc := 47) C dX6_houseNow_47 1 rfl ?_
      refine jw_iald (pc := 48) C (f := V) 2 k rfl rfl (by omega) (by decide) dX6_houseNow_48 ?_
      exact jw_iretR (pc := 49) C E dX6_houseNow_49 (congrArg jI (by unfold sp_house; (repeat' split) <;> first | rfl | omega))
    ·
      by_cases sw_1_2 : w = 2
      · -- case 2
        refine jw_table (pc := 1) (tgt := 50) C dX6_houseNow_1 (by omega) (by omega) (by omega) (by rw [sw_1_2]; rfl) (by decide) ?_
        refine jw_aload_n (pc := 50) C dX6_houseNow_50 0 rfl ?_
        refine jw_iload_n (pc := 51) C dX6_houseNow_51 1 rfl ?_
        refine jw_iconst (pc := 52) C dX6_houseNow_52 ?_
        refine jw_callRV (pc := 53) C [.int (jI ((k : Nat) : Int)), .int (jI 0)] [] 2 (con_X6_hoursOf lau D cI cB g co nh qk qv ns qh ql ch hd q9 q10 q11 q12 pl qp iw nw nz th sd qs ik kc ks kg kh k26 k27 k28 k29 k30 k31 k32 hx K V SH SL k 0 (by omega) (by omega) hS hK hV (by omega) (by omega)) gX6_houseNow_X6_hoursOf rfl rfl rfl (by decide +kernel) ⟨Nat.le_of_ble_eq_true rfl, Nat.le_of_ble_eq_true rfl⟩ 0 rfl rfl [0, 1, 2, 3, 4] rfl rfl (Nat.le_of_ble_eq_true rfl) rfl dX6_houseNow_53 ?_
        have b_53_0 := sp_ho_b (K k) (V k) (sp_sum SH SL (ns + th)) 0
        exact jw_iretR (pc := 56) C E dX6_houseNow_56 (congrArg jI (by unfold sp_house; (repeat' split) <;> first | rfl | omega))
      ·
        by_cases sw_1_3 : w = 3
        · -- case 3
          refine jw_table (pc := 1) (tgt := 57) C dX6_houseNow_1 (by omega) (by omega) (by omega) (by rw [sw_1_3]; rfl) (by decide) ?_
          refine jw_aload_n (pc := 57) C dX6_houseNow_57 0 rfl ?_
          refine jw_iload_n (pc := 58) C dX6_houseNow_58 1 rfl ?_
          refine jw_aload_n (pc := 59) C dX6_houseNow_59 0 rfl ?_
          refine jw_iload_n (pc := 60) C dX6_houseNow_60 1 rfl ?_
          refine jw_callRV (pc := 61) C [.int (jI ((k : Nat) : Int))] [.int (jI ((k : Nat) : Int)), .ref g] 1 (con_X6_greatestHour lau D cI cB g co nh qk qv ns qh ql ch hd q9 q10 q11 q12 pl qp iw nw nz th sd qs ik kc ks kg kh k26 k27 k28 k29 k30 k31 k32 hx K V SH SL k (by omega) (by omega) hS hK hV (by omega)) gX6_houseNow_X6_greatestHour rfl rfl rfl (by decide +kernel) ⟨Nat.le_of_ble_eq_true rfl, Nat.le_of_ble_eq_true rfl⟩ 0 rfl rfl [0, 1, 2, 3, 4] rfl rfl (Nat.le_of_ble_eq_true rfl) rfl dX6_houseNow_61 ?_
          have b_61_0 := sp_gh_b (K k) (V k) (sp_sum SH SL (ns + th)) 11
          refine jw_callRV (pc := 64) C [.int (jI ((k : Nat) : Int)), .int (jI (((sp_gh (K k) (V k) (sp_sum SH SL (ns + th)) 11) : Nat) : Int))] [] 2 (con_X6_mannersAt lau D cI cB g co nh qk qv ns qh ql ch hd q9 q10 q11 q12 pl qp iw nw nz th sd qs ik kc ks kg kh k26 k27 k28 k29 k30 k31 k32 hx K V SH SL k (sp_gh (K k) (V k) (sp_sum SH SL (ns + th)) 11) (by omega) (by omega) hS hK hV (by omega) (by omega)) gX6_houseNow_X6_mannersAt rfl rfl rfl (by decide +kernel) ⟨Nat.le_of_ble_eq_true rfl, Nat.le_of_ble_eq_true rfl⟩ 0 rfl rfl [0, 1, 2, 3, 4] rfl rfl (Nat.le_of_ble_eq_true rfl) rfl dX6_houseNow_64 ?_
          exact jw_iretR (pc := 67) C E dX6_houseNow_67 (congrArg jI (by unfold sp_house; (repeat' split) <;> first | rfl | omega))
        ·
          by_cases sw_1_4 : w = 4
          · -- case 4
            refine jw_table (pc := 1) (tgt := 68) C dX6_houseNow_1 (by omega) (by omega) (by omega) (by rw [sw_1_4]; rfl) (by decide) ?_
            refine jw_aload_n (pc := 68) C dX6_houseNow_68 0 rfl ?_
            refine jw_iload_n (pc := 69) C dX6_houseNow_69 1 rfl ?_
            refine jw_callRV (pc := 70) C [.int (jI ((k : Nat) : Int))] [] 1 (con_X6_greatestHour lau D cI cB g co nh qk qv ns qh ql ch hd q9 q10 q11 q12 pl qp iw nw nz th sd qs ik kc ks kg kh k26 k27 k28 k29 k30 k31 k32 hx K V SH SL k (by omega) (by omega) hS hK hV (by omega)) gX6_houseNow_X6_greatestHour rfl rfl rfl (by decide +kernel) ⟨Nat.le_of_ble_eq_true rfl, Nat.le_of_ble_eq_true rfl⟩ 0 rfl rfl [0, 1, 2, 3, 4] rfl rfl (Nat.le_of_ble_eq_true rfl) rfl dX6_houseNow_70 ?_
            have b_70_0 := sp_gh_b (K k) (V k) (sp_sum SH SL (ns + th)) 11
            exact jw_iretR (pc := 73) C E dX6_houseNow_73 (congrArg jI (by unfold sp_house; (repeat' split) <;> first | rfl | omega))
          ·
            refine jw_tableOut (pc := 1) (tgt := 74) C dX6_houseNow_1 (by omega) (by omega) (by decide) ?_
            refine jw_aload_n (pc := 74) C dX6_houseNow_74 0 rfl ?_
            refine jw_iload_n (pc := 75) C dX6_houseNow_75 1 rfl ?_
            refine jw_iload_n (pc := 76) C dX6_houseNow_76 2 rfl ?_
            refine jw_bipush (pc := 77) C dX6_houseNow_77 (by decide +kernel) ?_
            refine jw_isub (pc := 79) (z := (w - 10)) C dX6_houseNow_79 rfl ?_
            refine jw_top (y := jI (((w - 10).toNat : Nat) : Int)) (congrArg jI (by omega)) ?_
            refine jw_callRV (pc := 80) C [.int (jI ((k : Nat) : Int)), .int (jI ((((w - 10).toNat) : Nat) : Int))] [] 2 (con_X6_mannersAt lau D cI cB g co nh qk qv ns qh ql ch hd q9 q10 q11 q12 pl qp iw nw nz th sd qs ik kc ks kg kh k26 k27 k28 k29 k30 k31 k32 hx K V SH SL k ((w - 10).toNat) (by omega) (by omega) hS hK hV (by omega) (by omega)) gX6_houseNow_X6_mannersAt rfl rfl rfl (by decide +kernel) ⟨Nat.le_of_ble_eq_true rfl, Nat.le_of_ble_eq_true rfl⟩ 0 rfl rfl [0, 1, 2, 3, 4] rfl rfl (Nat.le_of_ble_eq_true rfl) rfl dX6_houseNow_80 ?_
            exact jw_iretR (pc := 83) C E dX6_houseNow_83 (congrArg jI (by unfold sp_house; (repeat' split) <;> first | rfl | omega))
def rmX6_about : Room := { frames := 6, cells := 0, slots := 0, locals := 138 }
set_option maxHeartbeats 4000000 in
set_option maxRecDepth 100000 in
theorem con_X6_about (lau : Launch) (D : va_G) (cI cB : ClassId) (g : Nat) (co : Int) (nh : Nat) (qk : Nat) (qv : Nat) (ns : Nat) (qh : Nat) (ql : Nat) (ch : Int) (hd : Nat) (q9 : Nat) (q10 : Nat) (q11 : Nat) (q12 : Nat) (pl : Nat) (qp : Nat) (iw : Int) (nw : Int) (nz : Int) (sd : Int64) (qs : Nat) (ik : Int) (kc : Int) (ks : Nat) (kg : Int) (kh : Nat) (k26 : Nat) (k27 : Nat) (k28 : Nat) (k29 : Nat) (k30 : Nat) (k31 : Nat) (k32 : Nat) (hx : Int64) (K : Nat → Int) (V : Nat → Int) (SH : Nat → Int) (SL : Nat → Int) (z : Int) (w : Int) (hnh : nh ≤ 5) (hns : ns ≤ 6) (hS : ∀ x, x < ns → 0 ≤ SH x ∧ SH x ≤ 9 ∧ 0 ≤ SL x ∧ SL x ≤ 9) (hK : ∀ x, x < 5 → 0 ≤ K x ∧ K x ≤ 4) (hV : ∀ x, x < 5 → 0 ≤ V x ∧ V x ≤ 9) (hz : -2147483648 ≤ z ∧ z < 2147483648) (hw : -2147483648 ≤ w ∧ w < 2147483648) : jMR lau yX6_about wsX6_about rmX6_about D cI cB [.ref g, .int (jI z), .int (jI w)] [oM g co ((nh : Nat) : Int) qk qv ((ns : Nat) : Int) qh ql ch ((hd : Nat) : Int) q9 q10 q11 q12 ((pl : Nat) : Int) qp iw nw nz ((0 : Nat) : Int) sd qs ik kc ((ks : Nat) : Int) kg ((kh : Nat) : Int) k26 k27 k28 k29 k30 k31 k32 hx, aI cI qk 5 K, aI cI qv 5 V, aI cI qh 7 SH, aI cI ql 7 SL] (.int (jI (sp_about nh K V (sp_sum SH SL (ns + 0)) z w))) := by
  refine jMR.of (own := RX6) (cc := cX6_about) (maxL := 3) (ret := (some .int)) rfl (by decide) rfl (Nat.le_of_ble_eq_true rfl) ?_
  intro X C E
  refine jw_lv (lv' := [(0, .ref g), (1, .int (jI z)), (2, .int (jI w))]) [0, 1, 2] rfl ?_
  refine jw_aload_n (pc := 0) C dX6_about_0 0 rfl ?_
  refine jw_iload_n (pc := 1) C dX6_about_1 1 rfl ?_
  refine jw_callRV (pc := 2) C [.int (jI z)] [] 1 (con_X6_isHouse lau D cI cB g co nh qk qv ns qh ql ch hd q9 q10 q11 q12 pl qp iw nw nz 0 sd qs ik kc ks kg kh k26 k27 k28 k29 k30 k31 k32 hx z (by omega) (by omega)) gX6_about_X6_isHouse rfl rfl rfl (by decide +kernel) ⟨Nat.le_of_ble_eq_true rfl, Nat.le_of_ble_eq_true rfl⟩ 0 rfl rfl [0] rfl rfl (Nat.le_of_ble_eq_true rfl) rfl dX6_about_2 ?_
  refine jw_ifb_ne (pc := 5) (tgt := 11) C dX6_about_5 (by decide) (fun c_5 => ?_) (fun c_5 => ?_)
  · -- 5 t
    obtain ⟨kz, rfl⟩ : ∃ kz : Nat, z = ((kz : Nat) : Int) := ⟨(z).toNat, by omega⟩
    refine jw_iload_n (pc := 11) C dX6_about_11 2 rfl ?_
    refine jw_iconst (pc := 12) C dX6_about_12 ?_
    refine jw_iconst (pc := 13) C dX6_about_13 ?_
    refine jw_callRS (pc := 14) C [.int (jI w), .int (jI 0), .int (jI 4)] [] 3 (con_X6_within lau D cI cB w 0 4 (by omega) (by omega) (by omega)) gX6_about_X6_within rfl rfl rfl (by decide +kernel) ⟨Nat.le_of_ble_eq_true rfl, Nat.le_of_ble_eq_true rfl⟩ [] rfl rfl (Nat.le_of_ble_eq_true rfl) rfl dX6_about_14 ?_
    refine jw_ifb_ne (pc := 17) (tgt := 31) C dX6_about_17 (by decide) (fun c_17 => ?_) (fun c_17 => ?_)
    · -- 17 t
      refine jw_aload_n (pc := 31) C dX6_about_31 0 rfl ?_
      refine jw_iload_n (pc := 32) C dX6_about_32 1 rfl ?_
      refine jw_iload_n (pc := 33) C dX6_about_33 2 rfl ?_
      refine jw_callRV (pc := 34) C [.int (jI ((kz : Nat) : Int)), .int (jI w)] [] 2 (con_X6_houseNow lau D cI cB g co nh qk qv ns qh ql ch hd q9 q10 q11 q12 pl qp iw nw nz 0 sd qs ik kc ks kg kh k26 k27 k28 k29 k30 k31 k32 hx K V SH SL kz w (by omega) (by omega) hS hK hV (by omega) (by omega)) gX6_about_X6_houseNow rfl rfl rfl (by decide +kernel) ⟨Nat.le_of_ble_eq_true rfl, Nat.le_of_ble_eq_true rfl⟩ 0 rfl rfl [0, 1, 2, 3, 4] rfl rfl (Nat.le_of_ble_eq_true rfl) rfl dX6_about_34 ?_
      refine jw_goto (pc := 37) (tgt := 42) C dX6_about_37 (by decide) ?_
      exact jw_iretR (pc := 42) C E dX6_about_42 (congrArg jI (by unfold sp_about; (try simp only [Int.toNat_natCast]); (repeat' split) <;> first | rfl | omega))
    · -- 17 f
      refine jw_iload_n (pc := 20) C dX6_about_20 2 rfl ?_
      refine jw_bipush (pc := 21) C dX6_about_21 (by decide +kernel) ?_
      refine jw_bipush (pc := 23) C dX6_about_23 (by decide +kernel) ?_
      refine jw_callRS (pc := 25) C [.int (jI w), .int (jI 10), .int (jI 21)] [] 3 (con_X6_within lau D cI cB w 10 21 (by omega) (by omega) (by omega)) gX6_about_X6_within rfl rfl rfl (by decide +kernel) ⟨Nat.le_of_ble_eq_true rfl, Nat.le_of_ble_eq_true rfl⟩ [] rfl rfl (Nat.le_of_ble_eq_true rfl) rfl dX6_about_25 ?_
      refine jw_ifb_eq (pc := 28) (tgt := 40) C dX6_about_28 (by decide) (fun c_28 => ?_) (fun c_28 => ?_)
      · -- 28 t
        refine jw_bipush (pc := 40) C dX6_about_40 (by decide +kernel) ?_
        exact jw_iretR (pc := 42) C E dX6_about_42 (congrArg jI (by unfold sp_about; (try simp only [Int.toNat_natCast]); (repeat' split) <;> first | rfl | omega))
      · -- 28 f
        refine jw_aload_n (pc := 31) C dX6_about_31 0 rfl ?_
        refine jw_iload_n (pc := 32) C dX6_about_32 1 rfl ?_
        refine jw_iload_n (pc := 33) C dX6_about_33 2 rfl ?_
        refine jw_callRV (pc := 34) C [.int (jI ((kz : Nat) : Int)), .int (jI w)] [] 2 (con_X6_houseNow lau D cI cB g co nh qk qv ns qh ql ch hd q9 q10 q11 q12 pl qp iw nw nz 0 sd qs ik kc ks kg kh k26 k27 k28 k29 k30 k31 k32 hx K V SH SL kz w (by omega) (by omega) hS hK hV (by omega) (by omega)) gX6_about_X6_houseNow rfl rfl rfl (by decide +kernel) ⟨Nat.le_of_ble_eq_true rfl, Nat.le_of_ble_eq_true rfl⟩ 0 rfl rfl [0, 1, 2, 3, 4] rfl rfl (Nat.le_of_ble_eq_true rfl) rfl dX6_about_34 ?_
        refine jw_goto (pc := 37) (tgt := 42) C dX6_about_37 (by decide) ?_
        exact jw_iretR (pc := 42) C E dX6_about_42 (congrArg jI (by unfold sp_about; (try simp only [Int.toNat_natCast]); (repeat' split) <;> first | rfl | omega))
  · -- 5 f
    refine jw_bipush (pc := 8) C dX6_about_8 (by decide +kernel) ?_
    exact jw_iretR (pc := 10) C E dX6_about_10 (congrArg jI (by unfold sp_about; (try simp only [Int.toNat_natCast]); (repeat' split) <;> first | rfl | omega))
theorem fl_X6_as_7 : Cond.fieldLink RX6 7 "GongTideModel" "kindOf" "[I" ∈ wsX6_as := by decide +kernel
theorem hi_X6_as_X6 : ∀ w ∈ wsX60, w ∈ wsX6_as := fun w h => List.mem_cons_of_mem _ (List.mem_append_right _ h)
def rmX6_as : Room := { frames := 2, cells := 0, slots := 0, locals := 43 }
set_option maxHeartbeats 4000000 in
set_option maxRecDepth 100000 in
theorem con_X6_as (lau : Launch) (D : va_G) (cI cB : ClassId) (g : Nat) (co : Int) (nh : Nat) (qk : Nat) (qv : Nat) (ns : Nat) (qh : Nat) (ql : Nat) (ch : Int) (hd : Nat) (q9 : Nat) (q10 : Nat) (q11 : Nat) (q12 : Nat) (pl : Nat) (qp : Nat) (iw : Int) (nw : Int) (nz : Int) (th : Nat) (sd : Int64) (qs : Nat) (ik : Int) (kc : Int) (ks : Nat) (kg : Int) (kh : Nat) (k26 : Nat) (k27 : Nat) (k28 : Nat) (k29 : Nat) (k30 : Nat) (k31 : Nat) (k32 : Nat) (hx : Int64) (K : Nat → Int) (z : Int) (w : Int) (hnh : nh ≤ 5) (hK : ∀ x, x < 5 → 0 ≤ K x ∧ K x ≤ 4) (hz : -2147483648 ≤ z ∧ z < 2147483648) (hw : -2147483648 ≤ w ∧ w < 2147483648) : jMR lau yX6_as wsX6_as rmX6_as D cI cB [.ref g, .int (jI z), .int (jI w)] [oM g co ((nh : Nat) : Int) qk qv ((ns : Nat) : Int) qh ql ch ((hd : Nat) : Int) q9 q10 q11 q12 ((pl : Nat) : Int) qp iw nw nz ((th : Nat) : Int) sd qs ik kc ((ks : Nat) : Int) kg ((kh : Nat) : Int) k26 k27 k28 k29 k30 k31 k32 hx, aI cI qk 5 K] (.int (jI (sp_as nh K z w))) := by
  refine jMR.of (own := RX6) (cc := cX6_as) (maxL := 4) (ret := (some .int)) rfl (by decide) rfl (Nat.le_of_ble_eq_true rfl) ?_
  intro X C E
  refine jw_lv (lv' := [(0, .ref g), (1, .int (jI z)), (2, .int (jI w))]) [0, 1, 2] rfl ?_
  refine jw_aload_n (pc := 0) C dX6_as_0 0 rfl ?_
  refine jw_iload_n (pc := 1) C dX6_as_1 1 rfl ?_
  refine jw_callRV (pc := 2) C [.int (jI z)] [] 1 (con_X6_isHouse lau D cI cB g co nh qk qv ns qh ql ch hd q9 q10 q11 q12 pl qp iw nw nz th sd qs ik kc ks kg kh k26 k27 k28 k29 k30 k31 k32 hx z (by omega) (by omega)) gX6_as_X6_isHouse rfl rfl rfl (by decide +kernel) ⟨Nat.le_of_ble_eq_true rfl, Nat.le_of_ble_eq_true rfl⟩ 0 rfl rfl [0] rfl rfl (Nat.le_of_ble_eq_true rfl) rfl dX6_as_2 ?_
  refine jw_ifb_ne (pc := 5) (tgt := 11) C dX6_as_5 (by decide) (fun c_5 => ?_) (fun c_5 => ?_)
  · -- 5 t
    obtain ⟨kz, rfl⟩ : ∃ kz : Nat, z = ((kz : Nat) : Int) := ⟨(z).toNat, by omega⟩
    refine jw_iload_n (pc := 11) C dX6_as_11 2 rfl ?_
    refine jw_iconst (pc := 12) C dX6_as_12 ?_
    refine jw_iconst (pc := 13) C dX6_as_13 ?_
    refine jw_callRS (pc := 14) C [.int (jI w), .int (jI 0), .int (jI 4)] [] 3 (con_X6_within lau D cI cB w 0 4 (by omega) (by omega) (by omega)) gX6_as_X6_within rfl rfl rfl (by decide +kernel) ⟨Nat.le_of_ble_eq_true rfl, Nat.le_of_ble_eq_true rfl⟩ [] rfl rfl (Nat.le_of_ble_eq_true rfl) rfl dX6_as_14 ?_
    refine jw_ifb_ne (pc := 17) (tgt := 23) C dX6_as_17 (by decide) (fun c_17 => ?_) (fun c_17 => ?_)
    · -- 17 t
      refine jw_aload_n (pc := 23) C dX6_as_23 0 rfl ?_
      refine jw_get (pc := 24) C hi_X6_as_X6 0 rfl rfl 2 (by decide) fl_X6_as_7 rfl rfl dX6_as_24 ?_
      refine jw_iload_n (pc := 27) C dX6_as_27 1 rfl ?_
      refine jw_iald (pc := 28) C (f := K) 1 kz rfl rfl (by omega) (by decide) dX6_as_28 ?_
      have hkk := hK kz (by omega)
      refine jw_istore_n (pc := 29) (lv' := [(3, .int (jI (K kz))), (0, .ref g), (1, .int (jI ((kz : Nat) : Int))), (2, .int (jI w))]) C dX6_as_29 (by decide) rfl ?_
      refine jw_iload_n (pc := 30) C dX6_as_30 3 rfl ?_
      refine jw_if_eq (pc := 31) (tgt := 49) C dX6_as_31 (by decide) (by omega) (fun c_31 => ?_) (fun c_31 => ?_)
      · -- 31 t
        refine jw_iload_n (pc := 49) C dX6_as_49 2 rfl ?_
        refine jw_goto (pc := 50) (tgt := 54) C dX6_as_50 (by decide) ?_
        exact jw_iretR (pc := 54) C E dX6_as_54 (congrArg jI (by unfold sp_as; (try simp only [Int.toNat_natCast]); (repeat' split) <;> first | rfl | omega))
      · -- 31 f
        refine jw_iload_n (pc := 34) C dX6_as_34 0 rfl ?_
        refine jw_iload_n (pc := 35) C dX6_as_35 3 rfl ?_
        refine jw_icmp_eq (pc := 36) (tgt := 49) C dX6_as_36 (by decide) (by omega) (by omega) (fun c_36 => ?_) (fun c_36 => ?_)
        · -- 36 t
          refine jw_iload_n (pc := 49) C dX6_as_49 2 rfl ?_
          refine jw_goto (pc := 50) (tgt := 54) C dX6_as_50 (by decide) ?_
          exact jw_iretR (pc := 54) C E dX6_as_54 (congrArg jI (by unfold sp_as; (try simp only [Int.toNat_natCast]); (repeat' split) <;> first | rfl | omega))
        · -- 36 f
          refine jw_iload_n (pc := 39) C dX6_as_39 3 rfl ?_
          refine jw_iconst (pc := 40) C dX6_as_40 ?_
          refine jw_icmp_ne (pc := 41) (tgt := 53) C dX6_as_41 (by decide) (by omega) (by omega) (fun c_41 => ?_) (fun c_41 => ?_)
          · -- 41 t
            refine jw_iconst (pc := 53) C dX6_as_53 ?_
            exact jw_iretR (pc := 54) C E dX6_as_54 (congrArg jI (by unfold sp_as; (try simp only [Int.toNat_natCast]); (repeat' split) <;> first | rfl | omega))
          · -- 41 f
            refine jw_iload_n (pc := 44) C dX6_as_44 0 rfl ?_
            refine jw_iconst (pc := 45) C dX6_as_45 ?_
            refine jw_icmp_ne (pc := 46) (tgt := 53) C dX6_as_46 (by decide) (by omega) (by omega) (fun c_46 => ?_) (fun c_46 => ?_)
            · -- 46 t
              refine jw_iconst (pc := 53) C dX6_as_53 ?_
              exact jw_iretR (pc := 54) C E dX6_as_54 (congrArg jI (by unfold sp_as; (try simp only [Int.toNat_natCast]); (repeat' split) <;> first | rfl | omega))
            · -- 46 f
              refine jw_iload_n (pc := 49) C dX6_as_49 2 rfl ?_
              refine jw_goto (pc := 50) (tgt := 54) C dX6_as_50 (by decide) ?_
              exact jw_iretR (pc := 54) C E dX6_as_54 (congrArg jI (by unfold sp_as; (try simp only [Int.toNat_natCast]); (repeat' split) <;> first | rfl | omega))
    · -- 17 f
      refine jw_bipush (pc := 20) C dX6_as_20 (by decide +kernel) ?_
      exact jw_iretR (pc := 22) C E dX6_as_22 (congrArg jI (by unfold sp_as; (try simp only [Int.toNat_natCast]); (repeat' split) <;> first | rfl | omega))
  · -- 5 f
    refine jw_bipush (pc := 8) C dX6_as_8 (by decide +kernel) ?_
    exact jw_iretR (pc := 10) C E dX6_as_10 (congrArg jI (by unfold sp_as; (try simp only [Int.toNat_natCast]); (repeat' split) <;> first | rfl | omega))
theorem fl_X6_tide_94 : Cond.fieldLink RX6 94 "GongTideModel" "houses" "I" ∈ wsX6_tide := by decide +kernel
theorem hi_X6_tide_X6 : ∀ w ∈ wsX60, w ∈ wsX6_tide := fun w h => List.mem_cons_of_mem _ (List.mem_append_right _ h)
def rmX6_tide : Room := { frames := 2, cells := 0, slots := 0, locals := 42 }
set_option maxHeartbeats 4000000 in
set_option maxRecDepth 100000 in
theorem con_X6_tide (lau : Launch) (D : va_G) (cI cB : ClassId) (g : Nat) (co : Int) (nh : Nat) (qk : Nat) (qv : Nat) (ns : Nat) (qh : Nat) (ql : Nat) (ch : Int) (hd : Nat) (q9 : Nat) (q10 : Nat) (q11 : Nat) (q12 : Nat) (pl : Nat) (qp : Nat) (iw : Int) (nw : Int) (nz : Int) (sd : Int64) (qs : Nat) (ik : Int) (kc : Int) (ks : Nat) (kg : Int) (kh : Nat) (k26 : Nat) (k27 : Nat) (k28 : Nat) (k29 : Nat) (k30 : Nat) (k31 : Nat) (k32 : Nat) (hx : Int64) (SH : Nat → Int) (SL : Nat → Int) (z : Int) (hnh : nh ≤ 5) (hns : ns ≤ 6) (hS : ∀ x, x < ns → 0 ≤ SH x ∧ SH x ≤ 9 ∧ 0 ≤ SL x ∧ SL x ≤ 9) (hz : -2147483648 ≤ z ∧ z < 2147483648) : jMR lau yX6_tide wsX6_tide rmX6_tide D cI cB [.ref g, .int (jI z)] [oM g co ((nh : Nat) : Int) qk qv ((ns : Nat) : Int) qh ql ch ((hd : Nat) : Int) q9 q10 q11 q12 ((pl : Nat) : Int) qp iw nw nz ((0 : Nat) : Int) sd qs ik kc ((ks : Nat) : Int) kg ((kh : Nat) : Int) k26 k27 k28 k29 k30 k31 k32 hx, aI cI qh 7 SH, aI cI ql 7 SL] (.int (jI (sp_tide nh (sp_sum SH SL (ns + 0)) z))) := by
  refine jMR.of (own := RX6) (cc := cX6_tide) (maxL := 2) (ret := (some .int)) rfl (by decide) rfl (Nat.le_of_ble_eq_true rfl) ?_
  intro X C E
  refine jw_lv (lv' := [(0, .ref g), (1, .int (jI z))]) [0, 1] rfl ?_
  refine jw_iload_n (pc := 0) C dX6_tide_0 1 rfl ?_
  refine jw_callRS (pc := 1) C [.int (jI z)] [] 1 (con_X6_isHour lau D cI cB z (by omega)) gX6_tide_X6_isHour rfl rfl rfl (by decide +kernel) ⟨Nat.le_of_ble_eq_true rfl, Nat.le_of_ble_eq_true rfl⟩ [] rfl rfl (Nat.le_of_ble_eq_true rfl) rfl dX6_tide_1 ?_
  refine jw_ifb_ne (pc := 4) (tgt := 10) C dX6_tide_4 (by decide) (fun c_4 => ?_) (fun c_4 => ?_)
  · -- 4 t
    obtain ⟨kz, rfl⟩ : ∃ kz : Nat, z = ((kz : Nat) : Int) := ⟨(z).toNat, by omega⟩
    refine jw_aload_n (pc := 10) C dX6_tide_10 0 rfl ?_
    refine jw_get (pc := 11) C hi_X6_tide_X6 0 rfl rfl 1 (by decide) fl_X6_tide_94 rfl rfl dX6_tide_11 ?_
    refine jw_if_ne (pc := 14) (tgt := 22) C dX6_tide_14 (by decide) (by omega) (fun c_14 => ?_) (fun c_14 => ?_)
    · -- 14 t
      refine jw_aload_n (pc := 22) C dX6_tide_22 0 rfl ?_
      refine jw_iload_n (pc := 23) C dX6_tide_23 1 rfl ?_
      refine jw_callRV (pc := 24) C [.int (jI ((kz : Nat) : Int))] [] 1 (con_X6_tideAt lau D cI cB g co nh qk qv ns qh ql ch hd q9 q10 q11 q12 pl qp iw nw nz 0 sd qs ik kc ks kg kh k26 k27 k28 k29 k30 k31 k32 hx SH SL kz (by omega) (by omega) hS (by omega)) gX6_tide_X6_tideAt rfl rfl rfl (by decide +kernel) ⟨Nat.le_of_ble_eq_true rfl, Nat.le_of_ble_eq_true rfl⟩ 0 rfl rfl [0, 1, 2] rfl rfl (Nat.le_of_ble_eq_true rfl) rfl dX6_tide_24 ?_
      have b_24_0 := (show 0 ≤ sp_cap (sp_sum SH SL (ns + 0) kz) ∧ sp_cap (sp_sum SH SL (ns + 0) kz) ≤ 20 from sp_cap_b (sp_sum_b (ns + 0) (fun y hy => (hS y hy).2.2) kz).1)
      exact jw_iretR (pc := 27) C E dX6_tide_27 (congrArg jI (by unfold sp_tide; (try simp only [Int.toNat_natCast]); (repeat' split) <;> first | rfl | omega))
    · -- 14 f
      refine jw_bipush (pc := 17) C dX6_tide_17 (by decide +kernel) ?_
      refine jw_goto (pc := 19) (tgt := 27) C dX6_tide_19 (by decide) ?_
      exact jw_iretR (pc := 27) C E dX6_tide_27 (congrArg jI (by unfold sp_tide; (try simp only [Int.toNat_natCast]); (repeat' split) <;> first | rfl | omega))
  · -- 4 f
    refine jw_bipush (pc := 7) C dX6_tide_7 (by decide +kernel) ?_
    exact jw_iretR (pc := 9) C E dX6_tide_9 (congrArg jI (by unfold sp_tide; (try simp only [Int.toNat_natCast]); (repeat' split) <;> first | rfl | omega))
theorem fl_X6_strokeNow_16 : Cond.fieldLink RX6 16 "GongTideModel" "hourOf" "[I" ∈ wsX6_strokeNow := by decide +kernel
theorem fl_X6_strokeNow_19 : Cond.fieldLink RX6 19 "GongTideModel" "loudOf" "[I" ∈ wsX6_strokeNow := by decide +kernel
theorem hi_X6_strokeNow_X6 : ∀ w ∈ wsX60, w ∈ wsX6_strokeNow := fun w h => List.mem_cons_of_mem _ (List.mem_append_right _ h)
def rmX6_strokeNow : Room := { frames := 2, cells := 0, slots := 0, locals := 42 }
set_option maxHeartbeats 4000000 in
set_option maxRecDepth 100000 in
theorem con_X6_strokeNow (lau : Launch) (D : va_G) (cI cB : ClassId) (g : Nat) (co : Int) (nh : Nat) (qk : Nat) (qv : Nat) (ns : Nat) (qh : Nat) (ql : Nat) (ch : Int) (hd : Nat) (q9 : Nat) (q10 : Nat) (q11 : Nat) (q12 : Nat) (pl : Nat) (qp : Nat) (iw : Int) (nw : Int) (nz : Int) (th : Nat) (sd : Int64) (qs : Nat) (ik : Int) (kc : Int) (ks : Nat) (kg : Int) (kh : Nat) (k26 : Nat) (k27 : Nat) (k28 : Nat) (k29 : Nat) (k30 : Nat) (k31 : Nat) (k32 : Nat) (hx : Int64) (SH : Nat → Int) (SL : Nat → Int) (k : Nat) (w : Int) (hns : ns ≤ 6) (hk : k < ns) (hb : 0 ≤ SH k ∧ SH k ≤ 9 ∧ 0 ≤ SL k ∧ SL k ≤ 9) (hw : 0 ≤ w ∧ w ≤ 2) : jMR lau yX6_strokeNow wsX6_strokeNow rmX6_strokeNow D cI cB [.ref g, .int (jI ((k : Nat) : Int)), .int (jI w)] [oM g co ((nh : Nat) : Int) qk qv ((ns : Nat) : Int) qh ql ch ((hd : Nat) : Int) q9 q10 q11 q12 ((pl : Nat) : Int) qp iw nw nz ((th : Nat) : Int) sd qs ik kc ((ks : Nat) : Int) kg ((kh : Nat) : Int) k26 k27 k28 k29 k30 k31 k32 hx, aI cI qh 7 SH, aI cI ql 7 SL] (.int (jI (sp_strk (SH k) (SL k) w))) := by
  refine jMR.of (own := RX6) (cc := cX6_strokeNow) (maxL := 4) (ret := (some .int)) rfl (by decide) rfl (Nat.le_of_ble_eq_true rfl) ?_
  intro X C E
  refine jw_lv (lv' := [(0, .ref g), (1, .int (jI ((k : Nat) : Int))), (2, .int (jI w))]) [0, 1, 2] rfl ?_
  refine jw_aload_n (pc := 0) C dX6_strokeNow_0 0 rfl ?_
  refine jw_get (pc := 1) C hi_X6_strokeNow_X6 0 rfl rfl 5 (by decide) fl_X6_strokeNow_16 rfl rfl dX6_strokeNow_1 ?_
  refine jw_iload_n (pc := 4) C dX6_strokeNow_4 1 rfl ?_
  refine jw_iald (pc := 5) C (f := SH) 1 k rfl rfl (by omega) (by decide) dX6_strokeNow_5 ?_
  refine jw_aload_n (pc := 6) C dX6_strokeNow_6 0 rfl ?_
  refine jw_get (pc := 7) C hi_X6_strokeNow_X6 0 rfl rfl 6 (by decide) fl_X6_strokeNow_19 rfl rfl dX6_strokeNow_7 ?_
  refine jw_iload_n (pc := 10) C dX6_strokeNow_10 1 rfl ?_
  refine jw_iald (pc := 11) C (f := SL) 2 k rfl rfl (by omega) (by decide) dX6_strokeNow_11 ?_
  refine jw_iconst (pc := 12) C dX6_strokeNow_12 ?_
  refine jw_iadd (pc := 13) (z := ((SL k) + 1)) C dX6_strokeNow_13 rfl ?_
  refine jw_iconst (pc := 14) C dX6_strokeNow_14 ?_
  refine jw_idiv (pc := 15) C (jI ((SL k + 1) / 2)) dX6_strokeNow_15 (jI_ne0 (by omega)) (jI_div (by omega) (by omega)) ?_
  refine jw_iadd (pc := 16) (z := ((SH k) + ((SL k + 1) / 2))) C dX6_strokeNow_16 rfl ?_
  refine jw_istore_n (pc := 17) (lv' := [(3, .int (jI ((SH k) + ((SL k + 1) / 2)))), (0, .ref g), (1, .int (jI ((k : Nat) : Int))), (2, .int (jI w))]) C dX6_strokeNow_17 (by decide) rfl ?_
  refine jw_iload_n (pc := 18) C dX6_strokeNow_18 3 rfl ?_
  refine jw_if_ne (pc := 19) (tgt := 31) C dX6_strokeNow_19 (by decide) (by omega) (fun c_19 => ?_) (fun c_19 => ?_)
  · -- 19 t
    refine jw_iload_n (pc := 31) C dX6_strokeNow_31 3 rfl ?_
    refine jw_iconst (pc := 32) C dX6_strokeNow_32 ?_
    refine jw_icmp_ne (pc := 33) (tgt := 45) C dX6_strokeNow_33 (by decide) (by omega) (by omega) (fun c_33 => ?_) (fun c_33 => ?_)
    · -- 33 t
      refine jw_iload_n (pc := 45) C dX6_strokeNow_45 0 rfl ?_
      refine jw_callRS (pc := 46) C [.int (jI ((((SH k) + ((SL k + 1) / 2)))))] [] 1 (con_X6_isHour lau D cI cB (((SH k) + ((SL k + 1) / 2))) (by omega)) gX6_strokeNow_X6_isHour rfl rfl rfl (by decide +kernel) ⟨Nat.le_of_ble_eq_true rfl, Nat.le_of_ble_eq_true rfl⟩ [] rfl rfl (Nat.le_of_ble_eq_true rfl) rfl dX6_strokeNow_46 ?_
      refine jw_ifb_eq (pc := 49) (tgt := 56) C dX6_strokeNow_49 (by decide) (fun c_49 => ?_) (fun c_49 => ?_)
      · -- 49 t
        refine jw_iconst (pc := 56) C dX6_strokeNow_56 ?_
        exact jw_iretR (pc := 57) C E dX6_strokeNow_57 (congrArg jI (by unfold sp_strk sp_gone; (repeat' split) <;> omega))
      · -- 49 f
        refine jw_iload_n (pc := 52) C dX6_strokeNow_52 0 rfl ?_
        refine jw_goto (pc := 53) (tgt := 57) C dX6_strokeNow_53 (by decide) ?_
        exact jw_iretR (pc := 57) C E dX6_strokeNow_57 (congrArg jI (by unfold sp_strk sp_gone; (repeat' split) <;> omega))
    · -- 33 f
      refine jw_aload_n (pc := 36) C dX6_strokeNow_36 1 rfl ?_
      refine jw_get (pc := 37) C hi_X6_strokeNow_X6 0 rfl rfl 6 (by decide) fl_X6_strokeNow_19 rfl rfl dX6_strokeNow_37 ?_
      refine jw_iload_n (pc := 40) C dX6_strokeNow_40 2 rfl ?_
      refine jw_iald (pc := 41) C (f := SL) 2 k rfl rfl (by omega) (by decide) dX6_strokeNow_41 ?_
      refine jw_goto (pc := 42) (tgt := 57) C dX6_strokeNow_42 (by decide) ?_
      exact jw_iretR (pc := 57) C E dX6_strokeNow_57 (congrArg jI (by unfold sp_strk sp_gone; (repeat' split) <;> omega))
  · -- 19 f
    refine jw_aload_n (pc := 22) C dX6_strokeNow_22 1 rfl ?_
    refine jw_get (pc := 23) C hi_X6_strokeNow_X6 0 rfl rfl 5 (by decide) fl_X6_strokeNow_16 rfl rfl dX6_strokeNow_23 ?_
    refine jw_iload_n (pc := 26) C dX6_strokeNow_26 2 rfl ?_
    refine jw_iald (pc := 27) C (f := SH) 1 k rfl rfl (by omega) (by decide) dX6_strokeNow_27 ?_
    refine jw_goto (pc := 28) (tgt := 57) C dX6_strokeNow_28 (by decide) ?_
    exact jw_iretR (pc := 57) C E dX6_strokeNow_57 (congrArg jI (by unfold sp_strk sp_gone; (repeat' split) <;> omega))
def rmX6_stroke : Room := { frames := 3, cells := 0, slots := 0, locals := 65 }
set_option maxHeartbeats 4000000 in
set_option maxRecDepth 100000 in
theorem con_X6_stroke (lau : Launch) (D : va_G) (cI cB : ClassId) (g : Nat) (co : Int) (nh : Nat) (qk : Nat) (qv : Nat) (ns : Nat) (qh : Nat) (ql : Nat) (ch : Int) (hd : Nat) (q9 : Nat) (q10 : Nat) (q11 : Nat) (q12 : Nat) (pl : Nat) (qp : Nat) (iw : Int) (nw : Int) (nz : Int) (sd : Int64) (qs : Nat) (ik : Int) (kc : Int) (ks : Nat) (kg : Int) (kh : Nat) (k26 : Nat) (k27 : Nat) (k28 : Nat) (k29 : Nat) (k30 : Nat) (k31 : Nat) (k32 : Nat) (hx : Int64) (SH : Nat → Int) (SL : Nat → Int) (z : Int) (w : Int) (hns : ns ≤ 6) (hS : ∀ x, x < ns → 0 ≤ SH x ∧ SH x ≤ 9 ∧ 0 ≤ SL x ∧ SL x ≤ 9) (hz : -2147483648 ≤ z ∧ z < 2147483648) (hw : -2147483648 ≤ w ∧ w < 2147483648) : jMR lau yX6_stroke wsX6_stroke rmX6_stroke D cI cB [.ref g, .int (jI z), .int (jI w)] [oM g co ((nh : Nat) : Int) qk qv ((ns : Nat) : Int) qh ql ch ((hd : Nat) : Int) q9 q10 q11 q12 ((pl : Nat) : Int) qp iw nw nz ((0 : Nat) : Int) sd qs ik kc ((ks : Nat) : Int) kg ((kh : Nat) : Int) k26 k27 k28 k29 k30 k31 k32 hx, aI cI qh 7 SH, aI cI ql 7 SL] (.int (jI (sp_stroke ns SH SL z w))) := by
  refine jMR.of (own := RX6) (cc := cX6_stroke) (maxL := 3) (ret := (some .int)) rfl (by decide) rfl (Nat.le_of_ble_eq_true rfl) ?_
  intro X C E
  refine jw_lv (lv' := [(0, .ref g), (1, .int (jI z)), (2, .int (jI w))]) [0, 1, 2] rfl ?_
  refine jw_aload_n (pc := 0) C dX6_stroke_0 0 rfl ?_
  refine jw_iload_n (pc := 1) C dX6_stroke_1 1 rfl ?_
  refine jw_callRV (pc := 2) C [.int (jI z)] [] 1 (con_X6_isStroke lau D cI cB g co nh qk qv ns qh ql ch hd q9 q10 q11 q12 pl qp iw nw nz 0 sd qs ik kc ks kg kh k26 k27 k28 k29 k30 k31 k32 hx z (by omega) (by omega)) gX6_stroke_X6_isStroke rfl rfl rfl (by decide +kernel) ⟨Nat.le_of_ble_eq_true rfl, Nat.le_of_ble_eq_true rfl⟩ 0 rfl rfl [0] rfl rfl (Nat.le_of_ble_eq_true rfl) rfl dX6_stroke_2 ?_
  refine jw_ifb_ne (pc := 5) (tgt := 13) C dX6_stroke_5 (by decide) (fun c_5 => ?_) (fun c_5 => ?_)
  · -- 5 t
    obtain ⟨kz, rfl⟩ : ∃ kz : Nat, z = ((kz : Nat) : Int) := ⟨(z).toNat, by omega⟩
    refine jw_iload_n (pc := 13) C dX6_stroke_13 2 rfl ?_
    refine jw_iconst (pc := 14) C dX6_stroke_14 ?_
    refine jw_iconst (pc := 15) C dX6_stroke_15 ?_
    refine jw_callRS (pc := 16) C [.int (jI w), .int (jI 0), .int (jI 2)] [] 3 (con_X6_within lau D cI cB w 0 2 (by omega) (by omega) (by omega)) gX6_stroke_X6_within rfl rfl rfl (by decide +kernel) ⟨Nat.le_of_ble_eq_true rfl, Nat.le_of_ble_eq_true rfl⟩ [] rfl rfl (Nat.le_of_ble_eq_true rfl) rfl dX6_stroke_16 ?_
    refine jw_ifb_eq (pc := 19) (tgt := 31) C dX6_stroke_19 (by decide) (fun c_19 => ?_) (fun c_19 => ?_)
    · -- 19 t
      refine jw_bipush (pc := 31) C dX6_stroke_31 (by decide +kernel) ?_
      exact jw_iretR (pc := 33) C E dX6_stroke_33 (congrArg jI (by unfold sp_stroke; (try simp only [Int.toNat_natCast]); first | (rw [if_neg (by omega)]; done) | (rw [if_pos (by omega)]; first | done | (unfold sp_strk; (repeat' split) <;> omega))))
    · -- 19 f
      refine jw_aload_n (pc := 22) C dX6_stroke_22 0 rfl ?_
      refine jw_iload_n (pc := 23) C dX6_stroke_23 1 rfl ?_
      refine jw_iload_n (pc := 24) C dX6_stroke_24 2 rfl ?_
      refine jw_callRV (pc := 25) C [.int (jI ((kz : Nat) : Int)), .int (jI w)] [] 2 (con_X6_strokeNow lau D cI cB g co nh qk qv ns qh ql ch hd q9 q10 q11 q12 pl qp iw nw nz 0 sd qs ik kc ks kg kh k26 k27 k28 k29 k30 k31 k32 hx SH SL kz w (by omega) (by omega) (by have := hS kz (by omega); omega) (by omega)) gX6_stroke_X6_strokeNow rfl rfl rfl (by decide +kernel) ⟨Nat.le_of_ble_eq_true rfl, Nat.le_of_ble_eq_true rfl⟩ 0 rfl rfl [0, 1, 2] rfl rfl (Nat.le_of_ble_eq_true rfl) rfl dX6_stroke_25 ?_
      refine jw_goto (pc := 28) (tgt := 33) C dX6_stroke_28 (by decide) ?_
      exact jw_iretR (pc := 33) C E dX6_stroke_33 (congrArg jI (by unfold sp_stroke; (try simp only [Int.toNat_natCast]); first | (rw [if_neg (by omega)]; done) | (rw [if_pos (by omega)]; first | done | (unfold sp_strk; (repeat' split) <;> omega))))
  · -- 5 f
    refine jw_bipush (pc := 8) C dX6_stroke_8 (by decide +kernel) ?_
    refine jw_goto (pc := 10) (tgt := 33) C dX6_stroke_10 (by decide) ?_
    exact jw_iretR (pc := 33) C E dX6_stroke_33 (congrArg jI (by unfold sp_stroke; (try simp only [Int.toNat_natCast]); first | (rw [if_neg (by omega)]; done) | (rw [if_pos (by omega)]; first | done | (unfold sp_strk; (repeat' split) <;> omega))))
