theorem fl_X5_hasColony_65 : Cond.fieldLink RX5 65 "GongTide" "houseCount" "I" ∈ wsX5_hasColony := by decide +kernel
theorem hi_X5_hasColony_X5 : ∀ w ∈ wsX50, w ∈ wsX5_hasColony := fun w h => List.mem_cons_of_mem _ (List.mem_append_right _ h)
def rmX5_hasColony : Room := { frames := 0, cells := 0, slots := 0, locals := 0 }
set_option maxHeartbeats 4000000 in
set_option maxRecDepth 100000 in
theorem con_X5_hasColony (lau : Launch) (D : va_G) (cI cB : ClassId) (g : Nat) (pg : Nat) (ki : Nat) (nh : Nat) (rd : Int) (a : Nat) (kp : Nat) (ik : Int) (no : Nat) (su : Nat) (hnh : nh ≤ 5) : jMR lau yX5_hasColony wsX5_hasColony rmX5_hasColony D cI cB [.ref g] [oG g pg ki ((nh : Nat) : Int) rd a kp ik no su] (.int (jI (jb (0 < nh)))) := by
  refine jMR.of (own := RX5) (cc := cX5_hasColony) (maxL := 1) (ret := (some .boolean)) rfl (by decide) rfl (Nat.le_of_ble_eq_true rfl) ?_
  intro X C E
  refine jw_lv (lv' := [(0, .ref g)]) [0] rfl ?_
  refine jw_aload_n (pc := 0) C dX5_hasColony_0 0 rfl ?_
  refine jw_get (pc := 1) C hi_X5_hasColony_X5 0 rfl rfl 2 (by decide) fl_X5_hasColony_65 rfl rfl dX5_hasColony_1 ?_
  refine jw_if_le (pc := 4) (tgt := 11) C dX5_hasColony_4 (by decide) (by omega) (fun c_4 => ?_) (fun c_4 => ?_)
  · -- 4 t
    refine jw_iconst (pc := 11) C dX5_hasColony_11 ?_
    exact jw_zretR (pc := 12) C E dX5_hasColony_12 (congrArg jI (by first | exact jb_i1 (by omega) | exact jb_i0 (by omega))) (jb_n _)
  · -- 4 f
    refine jw_iconst (pc := 7) C dX5_hasColony_7 ?_
    refine jw_goto (pc := 8) (tgt := 12) C dX5_hasColony_8 (by decide) ?_
    exact jw_zretR (pc := 12) C E dX5_hasColony_12 (congrArg jI (by first | exact jb_i1 (by omega) | exact jb_i0 (by omega))) (jb_n _)
theorem fl_X5_isHouse_65 : Cond.fieldLink RX5 65 "GongTide" "houseCount" "I" ∈ wsX5_isHouse := by decide +kernel
theorem hi_X5_isHouse_X5 : ∀ w ∈ wsX50, w ∈ wsX5_isHouse := fun w h => List.mem_cons_of_mem _ (List.mem_append_right _ h)
def rmX5_isHouse : Room := { frames := 1, cells := 0, slots := 0, locals := 22 }
set_option maxHeartbeats 4000000 in
set_option maxRecDepth 100000 in
theorem con_X5_isHouse (lau : Launch) (D : va_G) (cI cB : ClassId) (g : Nat) (pg : Nat) (ki : Nat) (nh : Nat) (rd : Int) (a : Nat) (kp : Nat) (ik : Int) (no : Nat) (su : Nat) (z : Int) (hnh : nh ≤ 5) (h1 : -2147483648 ≤ z ∧ z < 2147483648) : jMR lau yX5_isHouse wsX5_isHouse rmX5_isHouse D cI cB [.ref g, .int (jI z)] [oG g pg ki ((nh : Nat) : Int) rd a kp ik no su] (.int (jI (jb (0 ≤ z ∧ z ≤ ((nh : Nat) : Int) - 1)))) := by
  refine jMR.of (own := RX5) (cc := cX5_isHouse) (maxL := 2) (ret := (some .boolean)) rfl (by decide) rfl (Nat.le_of_ble_eq_true rfl) ?_
  intro X C E
  refine jw_lv (lv' := [(0, .ref g), (1, .int (jI z))]) [0, 1] rfl ?_
  refine jw_iload_n (pc := 0) C dX5_isHouse_0 1 rfl ?_
  refine jw_iconst (pc := 1) C dX5_isHouse_1 ?_
  refine jw_aload_n (pc := 2) C dX5_isHouse_2 0 rfl ?_
  refine jw_get (pc := 3) C hi_X5_isHouse_X5 0 rfl rfl 2 (by decide) fl_X5_isHouse_65 rfl rfl dX5_isHouse_3 ?_
  refine jw_iconst (pc := 6) C dX5_isHouse_6 ?_
  refine jw_isub (pc := 7) (z := (((nh : Nat) : Int) - 1)) C dX5_isHouse_7 rfl ?_
  refine jw_callRS (pc := 8) C [.int (jI z), .int (jI 0), .int (jI (((((nh : Nat) : Int) - 1))))] [] 3 (con_X5_isWithin lau D cI cB z 0 ((((nh : Nat) : Int) - 1)) (by omega) (by omega) (by omega)) gX5_isHouse_X5_isWithin rfl rfl rfl (by decide +kernel) ⟨Nat.le_of_ble_eq_true rfl, Nat.le_of_ble_eq_true rfl⟩ [] rfl rfl (Nat.le_of_ble_eq_true rfl) rfl dX5_isHouse_8 ?_
  exact jw_zretR (pc := 11) C E dX5_isHouse_11 rfl (jb_n _)
theorem fl_X5_allHouses_65 : Cond.fieldLink RX5 65 "GongTide" "houseCount" "I" ∈ wsX5_allHouses := by decide +kernel
theorem hi_X5_allHouses_X5 : ∀ w ∈ wsX50, w ∈ wsX5_allHouses := fun w h => List.mem_cons_of_mem _ (List.mem_append_right _ h)
def rmX5_allHouses : Room := { frames := 0, cells := 0, slots := 0, locals := 0 }
set_option maxHeartbeats 4000000 in
set_option maxRecDepth 100000 in
theorem con_X5_allHouses (lau : Launch) (D : va_G) (cI cB : ClassId) (g : Nat) (pg : Nat) (ki : Nat) (nh : Nat) (rd : Int) (a : Nat) (kp : Nat) (ik : Int) (no : Nat) (su : Nat) (hnh : nh ≤ 5) : jMR lau yX5_allHouses wsX5_allHouses rmX5_allHouses D cI cB [.ref g] [oG g pg ki ((nh : Nat) : Int) rd a kp ik no su] (.int (jI (((2 ^ nh : Nat) : Int) - 1))) := by
  refine jMR.of (own := RX5) (cc := cX5_allHouses) (maxL := 1) (ret := (some .int)) rfl (by decide) rfl (Nat.le_of_ble_eq_true rfl) ?_
  intro X C E
  refine jw_lv (lv' := [(0, .ref g)]) [0] rfl ?_
  refine jw_iconst (pc := 0) C dX5_allHouses_0 ?_
  refine jw_aload_n (pc := 1) C dX5_allHouses_1 0 rfl ?_
  refine jw_get (pc := 2) C hi_X5_allHouses_X5 0 rfl rfl 2 (by decide) fl_X5_allHouses_65 rfl rfl dX5_allHouses_2 ?_
  refine jw_ishl (pc := 5) C (jI ((2 ^ nh : Nat) : Int)) dX5_allHouses_5 (jI_shl1 nh (by omega)) ?_
  refine jw_iconst (pc := 6) C dX5_allHouses_6 ?_
  refine jw_isub (pc := 7) (z := (((2 ^ nh : Nat) : Int) - 1)) C dX5_allHouses_7 rfl ?_
  exact jw_iretR (pc := 8) C E dX5_allHouses_8 rfl
theorem fl_X5_kindAt_16 : Cond.fieldLink RX5 16 "GongTide" "kinds" "[I" ∈ wsX5_kindAt := by decide +kernel
theorem hi_X5_kindAt_X5 : ∀ w ∈ wsX50, w ∈ wsX5_kindAt := fun w h => List.mem_cons_of_mem _ (List.mem_append_right _ h)
def rmX5_kindAt : Room := { frames := 1, cells := 0, slots := 0, locals := 22 }
set_option maxHeartbeats 4000000 in
set_option maxRecDepth 100000 in
theorem con_X5_kindAt (lau : Launch) (D : va_G) (cI cB : ClassId) (g : Nat) (pg : Nat) (ki : Nat) (nh : Nat) (rd : Int) (a : Nat) (kp : Nat) (ik : Int) (no : Nat) (su : Nat) (K : Nat → Int) (k : Nat) (hk : k < 5) : jMR lau yX5_kindAt wsX5_kindAt rmX5_kindAt D cI cB [.ref g, .int (jI ((k : Nat) : Int))] [oG g pg ki ((nh : Nat) : Int) rd a kp ik no su, aI cI ki 5 K] (.int (jI (K k))) := by
  refine jMR.of (own := RX5) (cc := cX5_kindAt) (maxL := 2) (ret := (some .int)) rfl (by decide) rfl (Nat.le_of_ble_eq_true rfl) ?_
  intro X C E
  refine jw_lv (lv' := [(0, .ref g), (1, .int (jI ((k : Nat) : Int)))]) [0, 1] rfl ?_
  refine jw_iload_n (pc := 0) C dX5_kindAt_0 1 rfl ?_
  refine jw_iconst (pc := 1) C dX5_kindAt_1 ?_
  refine jw_iconst (pc := 2) C dX5_kindAt_2 ?_
  refine jw_callRS (pc := 3) C [.int (jI ((((k : Nat) : Int)))), .int (jI 0), .int (jI 4)] [] 3 (con_X5_isWithin lau D cI cB (((k : Nat) : Int)) 0 4 (by omega) (by omega) (by omega)) gX5_kindAt_X5_isWithin rfl rfl rfl (by decide +kernel) ⟨Nat.le_of_ble_eq_true rfl, Nat.le_of_ble_eq_true rfl⟩ [] rfl rfl (Nat.le_of_ble_eq_true rfl) rfl dX5_kindAt_3 ?_
  refine jw_ifb_eq (pc := 6) (tgt := 18) C dX5_kindAt_6 (by decide) (fun c_6 => ?_) (fun c_6 => ?_)
  · exfalso; omega
  · -- 6 f
    refine jw_aload_n (pc := 9) C dX5_kindAt_9 0 rfl ?_
    refine jw_get (pc := 10) C hi_X5_kindAt_X5 0 rfl rfl 1 (by decide) fl_X5_kindAt_16 rfl rfl dX5_kindAt_10 ?_
    refine jw_iload_n (pc := 13) C dX5_kindAt_13 1 rfl ?_
    refine jw_iald (pc := 14) C (f := K) 1 k rfl rfl (by omega) (by decide) dX5_kindAt_14 ?_
    refine jw_goto (pc := 15) (tgt := 19) C dX5_kindAt_15 (by decide) ?_
    exact jw_iretR (pc := 19) C E dX5_kindAt_19 rfl
theorem fl_X5_mannersAt_23 : Cond.fieldLink RX5 23 "GongTide" "affairs" "LGongTide$Affairs;" ∈ wsX5_mannersAt := by decide +kernel
theorem hi_X5_mannersAt_X5 : ∀ w ∈ wsX50, w ∈ wsX5_mannersAt := fun w h => List.mem_cons_of_mem _ (List.mem_append_left _ (List.mem_append_left _ (List.mem_append_right _ h)))
theorem mt1_X5_mannersAt_254 : Cond.methodLink RX5 254 Lib.Math.max.name ∈ wsX5_mannersAt := by decide +kernel
theorem mt2_X5_mannersAt_254 : Cond.static Lib.Math.max.name ∈ wsX5_mannersAt := by decide +kernel
theorem mt3_X5_mannersAt_254 : Cond.initialized "java/lang/Math" ∈ wsX5_mannersAt := by decide +kernel
theorem mt4_X5_mannersAt_254 : Cond.code Lib.Math.max.name Lib.Math.max.code 2 (some .int) ∈ wsX5_mannersAt := by decide +kernel
theorem mt1_X5_mannersAt_262 : Cond.methodLink RX5 262 Lib.Math.min.name ∈ wsX5_mannersAt := by decide +kernel
theorem mt2_X5_mannersAt_262 : Cond.static Lib.Math.min.name ∈ wsX5_mannersAt := by decide +kernel
theorem mt3_X5_mannersAt_262 : Cond.initialized "java/lang/Math" ∈ wsX5_mannersAt := by decide +kernel
theorem mt4_X5_mannersAt_262 : Cond.code Lib.Math.min.name Lib.Math.min.code 2 (some .int) ∈ wsX5_mannersAt := by decide +kernel
def rmX5_mannersAt : Room := { frames := 2, cells := 0, slots := 0, locals := 43 }
set_option maxHeartbeats 4000000 in
set_option maxRecDepth 100000 in
theorem con_X5_mannersAt (lau : Launch) (D : va_G) (cI cB : ClassId) (g : Nat) (pg : Nat) (ki : Nat) (nh : Nat) (rd : Int) (a : Nat) (kp : Nat) (ik : Int) (no : Nat) (su : Nat) (K : Nat → Int) (le : Nat) (s : Nat) (h : Nat) (ch : Int) (V : Nat → Int) (t : Nat) (q : Nat) (f : Nat → Int) (k : Nat) (i : Nat) (hk : k < 5) (hi : i < 12) (hK : ∀ x, x < 5 → 0 ≤ K x ∧ K x ≤ 4) (hV : ∀ x, x < 5 → 0 ≤ V x ∧ V x ≤ 9) (hf : ∀ k, k < 12 → 0 ≤ f k ∧ f k ≤ 99) : jMR lau yX5_mannersAt wsX5_mannersAt rmX5_mannersAt D cI cB [.ref g, .int (jI ((k : Nat) : Int)), .ref t, .int (jI ((i : Nat) : Int))] [oG g pg ki ((nh : Nat) : Int) rd a kp ik no su, aI cI ki 5 K, oA a le s h ch, aI cI le 5 V, oT t q, aI cI q 12 f] (.int (jI (sp_mann (K k) (V k) f i))) := by
  refine jMR.of (own := RX5) (cc := cX5_mannersAt) (maxL := 6) (ret := (some .int)) rfl (by decide) rfl (Nat.le_of_ble_eq_true rfl) ?_
  intro X C E
  refine jw_lv (lv' := [(0, .ref g), (1, .int (jI ((k : Nat) : Int))), (2, .ref t), (3, .int (jI ((i : Nat) : Int)))]) [0, 1, 2, 3] rfl ?_
  have hvk := hV k hk
  have hl3 := sp_less_n (V k) 3
  have hl4 : sp_less (V k) 3 ≤ 9 := by unfold sp_less; split <;> omega
  have hkk := hK k hk
  refine jw_aload_n (pc := 0) C dX5_mannersAt_0 0 rfl ?_
  refine jw_get (pc := 1) C hi_X5_mannersAt_X5 0 rfl rfl 4 (by decide) fl_X5_mannersAt_23 rfl rfl dX5_mannersAt_1 ?_
  refine jw_iload_n (pc := 4) C dX5_mannersAt_4 1 rfl ?_
  refine jw_callRV (pc := 5) C [.int (jI ((k : Nat) : Int))] [] 1 (con_X0_level lau D cI cB a le s h ch V k (by omega)) gX5_mannersAt_X0_level rfl rfl rfl (by decide +kernel) ⟨Nat.le_of_ble_eq_true rfl, Nat.le_of_ble_eq_true rfl⟩ 2 rfl rfl [2, 3] rfl rfl (Nat.le_of_ble_eq_true rfl) rfl dX5_mannersAt_5 ?_
  refine jw_istore (pc := 8) (lv' := [(4, .int (jI (V k))), (0, .ref g), (1, .int (jI ((k : Nat) : Int))), (2, .ref t), (3, .int (jI ((i : Nat) : Int)))]) C dX5_mannersAt_8 (by decide) rfl ?_
  refine jw_iconst (pc := 10) C dX5_mannersAt_10 ?_
  refine jw_iload (pc := 11) C dX5_mannersAt_11 0 rfl ?_
  refine jw_iconst (pc := 13) C dX5_mannersAt_13 ?_
  refine jw_isub (pc := 14) (z := ((V k) - 3)) C dX5_mannersAt_14 rfl ?_
  refine jw_max (pc := 15) C mt1_X5_mannersAt_254 mt2_X5_mannersAt_254 mt3_X5_mannersAt_254 mt4_X5_mannersAt_254 (Nat.le_of_ble_eq_true rfl) (Nat.le_of_ble_eq_true rfl) (by omega) (by omega) dX5_mannersAt_15 (z := (sp_less (V k) 3)) (by unfold sp_less; (repeat' split) <;> omega) ?_
  refine jw_istore (pc := 18) (lv' := [(5, .int (jI (sp_less (V k) 3))), (4, .int (jI (V k))), (0, .ref g), (1, .int (jI ((k : Nat) : Int))), (2, .ref t), (3, .int (jI ((i : Nat) : Int)))]) C dX5_mannersAt_18 (by decide) rfl ?_
  refine jw_aload_n (pc := 20) C dX5_mannersAt_20 2 rfl ?_
  refine jw_iload_n (pc := 21) C dX5_mannersAt_21 3 rfl ?_
  refine jw_callRV (pc := 22) C [.int (jI ((k : Nat) : Int))] [] 1 (con_X5_kindAt lau D cI cB g pg ki nh rd a kp ik no su K k (by omega)) gX5_mannersAt_X5_kindAt rfl rfl rfl (by decide +kernel) ⟨Nat.le_of_ble_eq_true rfl, Nat.le_of_ble_eq_true rfl⟩ 0 rfl rfl [0, 1] rfl rfl (Nat.le_of_ble_eq_true rfl) rfl dX5_mannersAt_22 ?_
  by_cases sw_25_1 : (K k) = 1
  · -- case 1
    refine jw_table (pc := 25) (tgt := 56) C dX5_mannersAt_25 (by omega) (by omega) (by omega) (by rw [sw_25_1]; rfl) (by decide) ?_
    refine jw_iload (pc := 56) C dX5_mannersAt_56 0 rfl ?_
    refine jw_aload_n (pc := 58) C dX5_mannersAt_58 4 rfl ?_
    refine jw_iload_n (pc := 59) C dX5_mannersAt_59 5 rfl ?_
    refine jw_callRV (pc := 60) C [.int (jI ((((i : Nat) : Int))))] [.int (jI (sp_less (V k) 3))] 1 (con_X4_at lau D cI cB t q f (((i : Nat) : Int)) (by omega) hf) gX5_mannersAt_X4_at rfl rfl rfl (by decide +kernel) ⟨Nat.le_of_ble_eq_true rfl, Nat.le_of_ble_eq_true rfl⟩ 4 rfl rfl [4, 5] rfl rfl (Nat.le_of_ble_eq_true rfl) rfl dX5_mannersAt_60 ?_
    have b_60_0 := (sp_at_b hf (by omega) : 0 ≤ sp_at f (((i : Nat) : Int)) ∧ sp_at f (((i : Nat) : Int)) ≤ 20)
    refine jw_top (y := jI (sp_cap (f i))) (congrArg jI (sp_at_nat f i)) ?_
    rw [sp_at_nat] at b_60_0
    refine jw_callRS (pc := 63) C [.int (jI (((sp_less (V k) 3)))), .int (jI (((sp_cap (f i)))))] [] 2 (con_X5_above lau D cI cB ((sp_less (V k) 3)) ((sp_cap (f i))) (by omega) (by omega)) gX5_mannersAt_X5_above rfl rfl rfl (by decide +kernel) ⟨Nat.le_of_ble_eq_true rfl, Nat.le_of_ble_eq_true rfl⟩ [] rfl rfl (Nat.le_of_ble_eq_true rfl) rfl dX5_mannersAt_63 ?_
    exact jw_iretR (pc := 66) C E dX5_mannersAt_66 (congrArg jI (by unfold sp_mann; (repeat' split) <;> first | rfl | omega))
  ·
    by_cases sw_25_2 : (K k) = 2
    · -- case 2
      refine jw_table (pc := 25) (tgt := 80) C dX5_mannersAt_25 (by omega) (by omega) (by omega) (by rw [sw_25_2]; rfl) (by decide) ?_
      refine jw_iload (pc := 80) C dX5_mannersAt_80 1 rfl ?_
      refine jw_aload_n (pc := 82) C dX5_mannersAt_82 4 rfl ?_
      refine jw_iload_n (pc := 83) C dX5_mannersAt_83 5 rfl ?_
      refine jw_callRV (pc := 84) C [.int (jI ((((i : Nat) : Int))))] [.int (jI (V k))] 1 (con_X4_at lau D cI cB t q f (((i : Nat) : Int)) (by omega) hf) gX5_mannersAt_X4_at rfl rfl rfl (by decide +kernel) ⟨Nat.le_of_ble_eq_true rfl, Nat.le_of_ble_eq_true rfl⟩ 4 rfl rfl [4, 5] rfl rfl (Nat.le_of_ble_eq_true rfl) rfl dX5_mannersAt_84 ?_
      have b_84_0 := (sp_at_b hf (by omega) : 0 ≤ sp_at f (((i : Nat) : Int)) ∧ sp_at f (((i : Nat) : Int)) ≤ 20)
      refine jw_top (y := jI (sp_cap (f i))) (congrArg jI (sp_at_nat f i)) ?_
      rw [sp_at_nat] at b_84_0
      refine jw_aload_n (pc := 87) C dX5_mannersAt_87 4 rfl ?_
      refine jw_iload_n (pc := 88) C dX5_mannersAt_88 5 rfl ?_
      refine jw_iconst (pc := 89) C dX5_mannersAt_89 ?_
      refine jw_isub (pc := 90) (z := (((i : Nat) : Int) - 1)) C dX5_mannersAt_90 rfl ?_
      refine jw_callRV (pc := 91) C [.int (jI (((((i : Nat) : Int) - 1))))] [.int (jI (sp_cap (f i))), .int (jI (V k))] 1 (con_X4_at lau D cI cB t q f ((((i : Nat) : Int) - 1)) (by omega) hf) gX5_mannersAt_X4_at rfl rfl rfl (by decide +kernel) ⟨Nat.le_of_ble_eq_true rfl, Nat.le_of_ble_eq_true rfl⟩ 4 rfl rfl [4, 5] rfl rfl (Nat.le_of_ble_eq_true rfl) rfl dX5_mannersAt_91 ?_
      have b_91_0 := (sp_at_b hf (by omega) : 0 ≤ sp_at f ((((i : Nat) : Int) - 1)) ∧ sp_at f ((((i : Nat) : Int) - 1)) ≤ 20)
      refine jw_min (pc := 94) C mt1_X5_mannersAt_262 mt2_X5_mannersAt_262 mt3_X5_mannersAt_262 mt4_X5_mannersAt_262 (Nat.le_of_ble_eq_true rfl) (Nat.le_of_ble_eq_true rfl) (by omega) (by omega) dX5_mannersAt_94 (z := (if (sp_at f ((((i : Nat) : Int) - 1))) < (sp_cap (f i)) then (sp_at f ((((i : Nat) : Int) - 1))) else (sp_cap (f i)))) rfl ?_
      refine jw_callRS (pc := 97) C [.int (jI (((V k)))), .int (jI (((if (sp_at f ((((i : Nat) : Int) - 1))) < (sp_cap (f i)) then (sp_at f ((((i : Nat) : Int) - 1))) else (sp_cap (f i))))))] [] 2 (con_X5_above lau D cI cB ((V k)) ((if (sp_at f ((((i : Nat) : Int) - 1))) < (sp_cap (f i)) then (sp_at f ((((i : Nat) : Int) - 1))) else (sp_cap (f i)))) (by omega) (by omega)) gX5_mannersAt_X5_above rfl rfl rfl (by decide +kernel) ⟨Nat.le_of_ble_eq_true rfl, Nat.le_of_ble_eq_true rfl⟩ [] rfl rfl (Nat.le_of_ble_eq_true rfl) rfl dX5_mannersAt_97 ?_
      exact jw_iretR (pc := 100) C E dX5_mannersAt_100 (congrArg jI (by unfold sp_mann; (repeat' split) <;> first | rfl | omega))
    ·
      by_cases sw_25_3 : (K k) = 3
      · -- case 3
        refine jw_table (pc := 25) (tgt := 101) C dX5_mannersAt_25 (by omega) (by omega) (by omega) (by rw [sw_25_3]; rfl) (by decide) ?_
        refine jw_iload_n (pc := 101) C dX5_mannersAt_101 5 rfl ?_
        refine jw_iconst (pc := 102) C dX5_mannersAt_102 ?_
        refine jw_irem (pc := 103) C (jI ((i % 2 : Nat) : Int)) dX5_mannersAt_103 (jI_ne0 (by omega)) (by rw [jI_rem (by omega) (by omega)]; exact congrArg jI (by omega)) ?_
        refine jw_if_ne (pc := 104) (tgt := 111) C dX5_mannersAt_104 (by decide) (by omega) (fun c_104 => ?_) (fun c_104 => ?_)
        · -- 104 t
          refine jw_iconst (pc := 111) C dX5_mannersAt_111 ?_
          exact jw_iretR (pc := 112) C E dX5_mannersAt_112 (congrArg jI (by unfold sp_mann; (repeat' split) <;> first | rfl | omega))
        · -- 104 f
          refine jw_iconst (pc := 107) C dX5_mannersAt_107 ?_
          refine jw_goto (pc := 108) (tgt := 112) C dX5_mannersAt_108 (by decide) ?_
          exact jw_iretR (pc := 112) C E dX5_mannersAt_112 (congrArg jI (by unfold sp_mann; (repeat' split) <;> first | rfl | omega))
      ·
        by_cases sw_25_4 : (K k) = 4
        · -- case 4
          refine jw_table (pc := 25) (tgt := 67) C dX5_mannersAt_25 (by omega) (by omega) (by omega) (by rw [sw_25_4]; rfl) (by decide) ?_
          refine jw_iload (pc := 67) C dX5_mannersAt_67 0 rfl ?_
          refine jw_aload_n (pc := 69) C dX5_mannersAt_69 4 rfl ?_
          refine jw_iload_n (pc := 70) C dX5_mannersAt_70 5 rfl ?_
          refine jw_iconst (pc := 71) C dX5_mannersAt_71 ?_
          refine jw_isub (pc := 72) (z := (((i : Nat) : Int) - 1)) C dX5_mannersAt_72 rfl ?_
          refine jw_callRV (pc := 73) C [.int (jI (((((i : Nat) : Int) - 1))))] [.int (jI (sp_less (V k) 3))] 1 (con_X4_at lau D cI cB t q f ((((i : Nat) : Int) - 1)) (by omega) hf) gX5_mannersAt_X4_at rfl rfl rfl (by decide +kernel) ⟨Nat.le_of_ble_eq_true rfl, Nat.le_of_ble_eq_true rfl⟩ 4 rfl rfl [4, 5] rfl rfl (Nat.le_of_ble_eq_true rfl) rfl dX5_mannersAt_73 ?_
          have b_73_0 := (sp_at_b hf (by omega) : 0 ≤ sp_at f ((((i : Nat) : Int) - 1)) ∧ sp_at f ((((i : Nat) : Int) - 1)) ≤ 20)
          refine jw_callRS (pc := 76) C [.int (jI (((sp_less (V k) 3)))), .int (jI (((sp_at f ((((i : Nat) : Int) - 1))))))] [] 2 (con_X5_above lau D cI cB ((sp_less (V k) 3)) ((sp_at f ((((i : Nat) : Int) - 1)))) (by omega) (by omega)) gX5_mannersAt_X5_above rfl rfl rfl (by decide +kernel) ⟨Nat.le_of_ble_eq_true rfl, Nat.le_of_ble_eq_true rfl⟩ [] rfl rfl (Nat.le_of_ble_eq_true rfl) rfl dX5_mannersAt_76 ?_
          exact jw_iretR (pc := 79) C E dX5_mannersAt_79 (congrArg jI (by unfold sp_mann; (repeat' split) <;> first | rfl | omega))
        ·
          refine jw_tableOut (pc := 25) (tgt := 113) C dX5_mannersAt_25 (by omega) (by omega) (by decide) ?_
          refine jw_iload (pc := 113) C dX5_mannersAt_113 1 rfl ?_
          refine jw_aload_n (pc := 115) C dX5_mannersAt_115 4 rfl ?_
          refine jw_iload_n (pc := 116) C dX5_mannersAt_116 5 rfl ?_
          refine jw_callRV (pc := 117) C [.int (jI ((((i : Nat) : Int))))] [.int (jI (V k))] 1 (con_X4_at lau D cI cB t q f (((i : Nat) : Int)) (by omega) hf) gX5_mannersAt_X4_at rfl rfl rfl (by decide +kernel) ⟨Nat.le_of_ble_eq_true rfl, Nat.le_of_ble_eq_true rfl⟩ 4 rfl rfl [4, 5] rfl rfl (Nat.le_of_ble_eq_true rfl) rfl dX5_mannersAt_117 ?_
          have b_117_0 := (sp_at_b hf (by omega) : 0 ≤ sp_at f (((i : Nat) : Int)) ∧ sp_at f (((i : Nat) : Int)) ≤ 20)
          refine jw_top (y := jI (sp_cap (f i))) (congrArg jI (sp_at_nat f i)) ?_
          rw [sp_at_nat] at b_117_0
          refine jw_callRS (pc := 120) C [.int (jI (((V k)))), .int (jI (((sp_cap (f i)))))] [] 2 (con_X5_above lau D cI cB ((V k)) ((sp_cap (f i))) (by omega) (by omega)) gX5_mannersAt_X5_above rfl rfl rfl (by decide +kernel) ⟨Nat.le_of_ble_eq_true rfl, Nat.le_of_ble_eq_true rfl⟩ [] rfl rfl (Nat.le_of_ble_eq_true rfl) rfl dX5_mannersAt_120 ?_
          exact jw_iretR (pc := 123) C E dX5_mannersAt_123 (congrArg jI (by unfold sp_mann; (repeat' split) <;> first | rfl | omega))
def rmX5_hoursOf : Room := { frames := 3, cells := 0, slots := 0, locals := 68 }
set_option maxHeartbeats 4000000 in
set_option maxRecDepth 100000 in
theorem con_X5_hoursOf (lau : Launch) (D : va_G) (cI cB : ClassId) (g : Nat) (pg : Nat) (ki : Nat) (nh : Nat) (rd : Int) (a : Nat) (kp : Nat) (ik : Int) (no : Nat) (su : Nat) (K : Nat → Int) (le : Nat) (s : Nat) (h : Nat) (ch : Int) (V : Nat → Int) (t : Nat) (q : Nat) (f : Nat → Int) (c : Int) (k : Nat) (hc : -2147483648 ≤ c ∧ c < 2147483648) (hk : k < 5) (hK : ∀ x, x < 5 → 0 ≤ K x ∧ K x ≤ 4) (hV : ∀ x, x < 5 → 0 ≤ V x ∧ V x ≤ 9) (hf : ∀ k, k < 12 → 0 ≤ f k ∧ f k ≤ 99) : jMR lau yX5_hoursOf wsX5_hoursOf rmX5_hoursOf D cI cB [.ref g, .int (jI c), .int (jI ((k : Nat) : Int)), .ref t] [oG g pg ki ((nh : Nat) : Int) rd a kp ik no su, aI cI ki 5 K, oA a le s h ch, aI cI le 5 V, oT t q, aI cI q 12 f] (.int (jI ((sp_ho (K k) (V k) f c : Nat) : Int))) := by
  refine jMR.of (own := RX5) (cc := cX5_hoursOf) (maxL := 6) (ret := (some .int)) rfl (by decide) rfl (Nat.le_of_ble_eq_true rfl) ?_
  intro X C E
  refine jw_lv (lv' := [(0, .ref g), (1, .int (jI c)), (2, .int (jI ((k : Nat) : Int))), (3, .ref t)]) [0, 1, 2, 3] rfl ?_
  refine jw_iconst (pc := 0) C dX5_hoursOf_0 ?_
  refine jw_istore (pc := 1) (lv' := [(4, .int (jI 0)), (0, .ref g), (1, .int (jI c)), (2, .int (jI ((k : Nat) : Int))), (3, .ref t)]) C dX5_hoursOf_1 (by decide) rfl ?_
  refine jw_iconst (pc := 3) C dX5_hoursOf_3 ?_
  refine jw_istore (pc := 4) (lv' := [(5, .int (jI 0)), (4, .int (jI 0)), (0, .ref g), (1, .int (jI c)), (2, .int (jI ((k : Nat) : Int))), (3, .ref t)]) C dX5_hoursOf_4 (by decide) rfl ?_
  have lp_6_1 : ∀ (fu : Nat) (i : Nat) (m : Nat), (i ≤ 12) → (m = sp_cnt (sp_is (K k) (V k) f c) i) → 12 - i < fu → jW X 6 [(0, .ref g), (1, .int (jI c)), (2, .int (jI ((k : Nat) : Int))), (3, .ref t), (4, .int (jI ((m : Nat) : Int))), (5, .int (jI ((i : Nat) : Int)))] [] [oG g pg ki ((nh : Nat) : Int) rd a kp ik no su, aI cI ki 5 K, oA a le s h ch, aI cI le 5 V, oT t q, aI cI q 12 f] := by
    intro fu
    induction fu with
    | zero => intro i m hi hm0 hm; exact absurd hm (Nat.not_lt_zero _)
    | succ fu ih_2 =>
      intro i m hi hm0 hm
      refine jw_iload (pc := 6) C dX5_hoursOf_6 5 rfl ?_
      refine jw_bipush (pc := 8) C dX5_hoursOf_8 (by decide +kernel) ?_
      refine jw_icmp_ge (pc := 10) (tgt := 37) C dX5_hoursOf_10 (by decide) (by omega) (by omega) (fun c_10 => ?_) (fun c_10 => ?_)
      · -- 10 t
        refine jw_iload (pc := 37) C dX5_hoursOf_37 4 rfl ?_
        exact jw_iretR (pc := 39) C E dX5_hoursOf_39 (by rw [hm0, show i = 12 by omega]; rfl)
      · -- 10 f
        refine jw_aload_n (pc := 13) C dX5_hoursOf_13 0 rfl ?_
        refine jw_iload_n (pc := 14) C dX5_hoursOf_14 2 rfl ?_
        refine jw_aload_n (pc := 15) C dX5_hoursOf_15 3 rfl ?_
        refine jw_iload (pc := 16) C dX5_hoursOf_16 5 rfl ?_
        refine jw_callRV (pc := 18) C [.int (jI ((k : Nat) : Int)), .ref t, .int (jI ((i : Nat) : Int))] [] 3 (con_X5_mannersAt lau D cI cB g pg ki nh rd a kp ik no su K le s h ch V t q f k i (by omega) (by omega) hK hV hf) gX5_hoursOf_X5_mannersAt rfl rfl rfl (by decide +kernel) ⟨Nat.le_of_ble_eq_true rfl, Nat.le_of_ble_eq_true rfl⟩ 0 rfl rfl [0, 1, 2, 3, 4, 5] rfl rfl (Nat.le_of_ble_eq_true rfl) rfl dX5_hoursOf_18 ?_
        have b_18_0 := (sp_mann_b hf (by omega) (hV _ (by omega)) : 0 ≤ sp_mann (K k) (V k) f i ∧ sp_mann (K k) (V k) f i ≤ 20)
        refine jw_callRS (pc := 21) C [.int (jI (((sp_mann (K k) (V k) f i))))] [] 1 (con_X5_howAt lau D cI cB ((sp_mann (K k) (V k) f i)) (by omega)) gX5_hoursOf_X5_howAt rfl rfl rfl (by decide +kernel) ⟨Nat.le_of_ble_eq_true rfl, Nat.le_of_ble_eq_true rfl⟩ [] rfl rfl (Nat.le_of_ble_eq_true rfl) rfl dX5_hoursOf_21 ?_
        have b_21_0 := sp_how_b ((sp_mann (K k) (V k) f i))
        refine jw_iload_n (pc := 24) C dX5_hoursOf_24 1 rfl ?_
        refine jw_icmp_ne (pc := 25) (tgt := 31) C dX5_hoursOf_25 (by decide) (by omega) (by omega) (fun c_25 => ?_) (fun c_25 => ?_)
        · -- 25 t
          refine jw_iinc (pc := 31) (z := ((i + 1 : Nat) : Int)) (lv' := [(5, .int (jI ((i + 1 : Nat) : Int))), (0, .ref g), (1, .int (jI c)), (2, .int (jI ((k : Nat) : Int))), (3, .ref t), (4, .int (jI ((m : Nat) : Int)))]) C dX5_hoursOf_31 5 rfl (by omega) (by decide) rfl ?_
          refine jw_goto (pc := 34) (tgt := 6) C dX5_hoursOf_34 (by decide) ?_
          refine jw_lv [1, 2, 3, 4, 5, 0] rfl ?_
          exact ih_2 (i + 1) m (by omega) (by first | (rw [hm0, sp_cnt_t (decide_eq_true c_25)]; done) | (rw [hm0, sp_cnt_f (fun q => c_25 (of_decide_eq_true q))]; done)) (by omega)
        · -- 25 f
          refine jw_iinc (pc := 28) (z := ((m + 1 : Nat) : Int)) (lv' := [(4, .int (jI ((m + 1 : Nat) : Int))), (0, .ref g), (1, .int (jI c)), (2, .int (jI ((k : Nat) : Int))), (3, .ref t), (5, .int (jI ((i : Nat) : Int)))]) C dX5_hoursOf_28 4 rfl (by omega) (by decide) rfl ?_
          refine jw_iinc (pc := 31) (z := ((i + 1 : Nat) : Int)) (lv' := [(5, .int (jI ((i + 1 : Nat) : Int))), (4, .int (jI ((m + 1 : Nat) : Int))), (0, .ref g), (1, .int (jI c)), (2, .int (jI ((k : Nat) : Int))), (3, .ref t)]) C dX5_hoursOf_31 5 rfl (by omega) (by decide) rfl ?_
          refine jw_goto (pc := 34) (tgt := 6) C dX5_hoursOf_34 (by decide) ?_
          refine jw_lv [2, 3, 4, 5, 1, 0] rfl ?_
          exact ih_2 (i + 1) (m + 1) (by omega) (by first | (rw [hm0, sp_cnt_t (decide_eq_true c_25)]; done) | (rw [hm0, sp_cnt_f (fun q => c_25 (of_decide_eq_true q))]; done)) (by omega)
  refine jw_lv [2, 3, 4, 5, 1, 0] rfl ?_
  exact lp_6_1 ((12 - 0) + 1) 0 0 (by omega) rfl (Nat.lt_succ_self _)
theorem fl_X5_hoursOfAll_65 : Cond.fieldLink RX5 65 "GongTide" "houseCount" "I" ∈ wsX5_hoursOfAll := by decide +kernel
theorem hi_X5_hoursOfAll_X5 : ∀ w ∈ wsX50, w ∈ wsX5_hoursOfAll := fun w h => List.mem_cons_of_mem _ (List.mem_append_left _ (List.mem_append_left _ (List.mem_append_right _ h)))
def rmX5_hoursOfAll : Room := { frames := 4, cells := 0, slots := 0, locals := 93 }
set_option maxHeartbeats 4000000 in
set_option maxRecDepth 100000 in
theorem con_X5_hoursOfAll (lau : Launch) (D : va_G) (cI cB : ClassId) (g : Nat) (pg : Nat) (ki : Nat) (nh : Nat) (rd : Int) (a : Nat) (kp : Nat) (ik : Int) (no : Nat) (su : Nat) (K : Nat → Int) (le : Nat) (s : Nat) (h : Nat) (ch : Int) (V : Nat → Int) (t : Nat) (q : Nat) (f : Nat → Int) (c : Int) (hc : -2147483648 ≤ c ∧ c < 2147483648) (hnh : nh ≤ 5) (hK : ∀ x, x < 5 → 0 ≤ K x ∧ K x ≤ 4) (hV : ∀ x, x < 5 → 0 ≤ V x ∧ V x ≤ 9) (hf : ∀ k, k < 12 → 0 ≤ f k ∧ f k ≤ 99) : jMR lau yX5_hoursOfAll wsX5_hoursOfAll rmX5_hoursOfAll D cI cB [.ref g, .int (jI c), .ref t] [oG g pg ki ((nh : Nat) : Int) rd a kp ik no su, aI cI ki 5 K, oA a le s h ch, aI cI le 5 V, oT t q, aI cI q 12 f] (.int (jI ((sp_all K V f c nh : Nat) : Int))) := by
  refine jMR.of (own := RX5) (cc := cX5_hoursOfAll) (maxL := 5) (ret := (some .int)) rfl (by decide) rfl (Nat.le_of_ble_eq_true rfl) ?_
  intro X C E
  refine jw_lv (lv' := [(0, .ref g), (1, .int (jI c)), (2, .ref t)]) [0, 1, 2] rfl ?_
  refine jw_iconst (pc := 0) C dX5_hoursOfAll_0 ?_
  refine jw_istore_n (pc := 1) (lv' := [(3, .int (jI 0)), (0, .ref g), (1, .int (jI c)), (2, .ref t)]) C dX5_hoursOfAll_1 (by decide) rfl ?_
  refine jw_iconst (pc := 2) C dX5_hoursOfAll_2 ?_
  refine jw_istore (pc := 3) (lv' := [(4, .int (jI 0)), (3, .int (jI 0)), (0, .ref g), (1, .int (jI c)), (2, .ref t)]) C dX5_hoursOfAll_3 (by decide) rfl ?_
  have lp_5_1 : ∀ (fu : Nat) (x : Nat) (m : Nat), (x ≤ nh) → (m = sp_all K V f c x) → nh - x < fu → jW X 5 [(0, .ref g), (1, .int (jI c)), (2, .ref t), (3, .int (jI ((m : Nat) : Int))), (4, .int (jI ((x : Nat) : Int)))] [] [oG g pg ki ((nh : Nat) : Int) rd a kp ik no su, aI cI ki 5 K, oA a le s h ch, aI cI le 5 V, oT t q, aI cI q 12 f] := by
    intro fu
    induction fu with
    | zero => intro x m hi hm0 hm; exact absurd hm (Nat.not_lt_zero _)
    | succ fu ih_2 =>
      intro x m hi hm0 hm
      refine jw_iload (pc := 5) C dX5_hoursOfAll_5 4 rfl ?_
      refine jw_aload_n (pc := 7) C dX5_hoursOfAll_7 0 rfl ?_
      refine jw_get (pc := 8) C hi_X5_hoursOfAll_X5 0 rfl rfl 2 (by decide) fl_X5_hoursOfAll_65 rfl rfl dX5_hoursOfAll_8 ?_
      refine jw_icmp_ge (pc := 11) (tgt := 31) C dX5_hoursOfAll_11 (by decide) (by omega) (by omega) (fun c_11 => ?_) (fun c_11 => ?_)
      · -- 11 t
        refine jw_iload_n (pc := 31) C dX5_hoursOfAll_31 3 rfl ?_
        exact jw_iretR (pc := 32) C E dX5_hoursOfAll_32 (by rw [hm0, show x = nh by omega])
      · -- 11 f
        refine jw_iload_n (pc := 14) C dX5_hoursOfAll_14 3 rfl ?_
        refine jw_aload_n (pc := 15) C dX5_hoursOfAll_15 0 rfl ?_
        refine jw_iload_n (pc := 16) C dX5_hoursOfAll_16 1 rfl ?_
        refine jw_iload (pc := 17) C dX5_hoursOfAll_17 4 rfl ?_
        refine jw_aload_n (pc := 19) C dX5_hoursOfAll_19 2 rfl ?_
        refine jw_callRV (pc := 20) C [.int (jI c), .int (jI ((x : Nat) : Int)), .ref t] [.int (jI ((m : Nat) : Int))] 3 (con_X5_hoursOf lau D cI cB g pg ki nh rd a kp ik no su K le s h ch V t q f c x (by omega) (by omega) hK hV hf) gX5_hoursOfAll_X5_hoursOf rfl rfl rfl (by decide +kernel) ⟨Nat.le_of_ble_eq_true rfl, Nat.le_of_ble_eq_true rfl⟩ 0 rfl rfl [0, 1, 2, 3, 4, 5] rfl rfl (Nat.le_of_ble_eq_true rfl) rfl dX5_hoursOfAll_20 ?_
        have b_20_0 := sp_ho_b (K x) (V x) f c
        refine jw_iadd (pc := 23) (z := ((m + (sp_ho (K x) (V x) f c) : Nat) : Int)) C dX5_hoursOfAll_23 (by omega) ?_
        refine jw_istore_n (pc := 24) (lv' := [(3, .int (jI ((m + (sp_ho (K x) (V x) f c) : Nat) : Int))), (0, .ref g), (1, .int (jI c)), (2, .ref t), (4, .int (jI ((x : Nat) : Int)))]) C dX5_hoursOfAll_24 (by decide) rfl ?_
        refine jw_iinc (pc := 25) (z := ((x + 1 : Nat) : Int)) (lv' := [(4, .int (jI ((x + 1 : Nat) : Int))), (3, .int (jI ((m + (sp_ho (K x) (V x) f c) : Nat) : Int))), (0, .ref g), (1, .int (jI c)), (2, .ref t)]) C dX5_hoursOfAll_25 4 rfl (by omega) (by decide) rfl ?_
        refine jw_goto (pc := 28) (tgt := 5) C dX5_hoursOfAll_28 (by decide) ?_
        refine jw_lv [2, 3, 4, 1, 0] rfl ?_
        exact ih_2 (x + 1) (m + (sp_ho (K x) (V x) f c)) (by omega) (by rw [hm0]; rfl) (by omega)
  refine jw_lv [2, 3, 4, 1, 0] rfl ?_
  exact lp_5_1 ((nh - 0) + 1) 0 0 (by omega) rfl (Nat.lt_succ_self _)
def rmX5_hourOfMostManners : Room := { frames := 3, cells := 0, slots := 0, locals := 68 }
set_option maxHeartbeats 4000000 in
set_option maxRecDepth 100000 in
theorem con_X5_hourOfMostManners (lau : Launch) (D : va_G) (cI cB : ClassId) (g : Nat) (pg : Nat) (ki : Nat) (nh : Nat) (rd : Int) (a : Nat) (kp : Nat) (ik : Int) (no : Nat) (su : Nat) (K : Nat → Int) (le : Nat) (s : Nat) (h : Nat) (ch : Int) (V : Nat → Int) (t : Nat) (q : Nat) (f : Nat → Int) (k : Nat) (hk : k < 5) (hK : ∀ x, x < 5 → 0 ≤ K x ∧ K x ≤ 4) (hV : ∀ x, x < 5 → 0 ≤ V x ∧ V x ≤ 9) (hf : ∀ k, k < 12 → 0 ≤ f k ∧ f k ≤ 99) : jMR lau yX5_hourOfMostManners wsX5_hourOfMostManners rmX5_hourOfMostManners D cI cB [.ref g, .int (jI ((k : Nat) : Int)), .ref t] [oG g pg ki ((nh : Nat) : Int) rd a kp ik no su, aI cI ki 5 K, oA a le s h ch, aI cI le 5 V, oT t q, aI cI q 12 f] (.int (jI ((sp_gh (K k) (V k) f 11 : Nat) : Int))) := by
  refine jMR.of (own := RX5) (cc := cX5_hourOfMostManners) (maxL := 5) (ret := (some .int)) rfl (by decide) rfl (Nat.le_of_ble_eq_true rfl) ?_
  intro X C E
  refine jw_lv (lv' := [(0, .ref g), (1, .int (jI ((k : Nat) : Int))), (2, .ref t)]) [0, 1, 2] rfl ?_
  refine jw_iconst (pc := 0) C dX5_hourOfMostManners_0 ?_
  refine jw_istore_n (pc := 1) (lv' := [(3, .int (jI 0)), (0, .ref g), (1, .int (jI ((k : Nat) : Int))), (2, .ref t)]) C dX5_hourOfMostManners_1 (by decide) rfl ?_
  refine jw_iconst (pc := 2) C dX5_hourOfMostManners_2 ?_
  refine jw_istore (pc := 3) (lv' := [(4, .int (jI 1)), (3, .int (jI 0)), (0, .ref g), (1, .int (jI ((k : Nat) : Int))), (2, .ref t)]) C dX5_hourOfMostManners_3 (by decide) rfl ?_
  have lp_5_1 : ∀ (fu : Nat) (i : Nat) (b : Nat), (1 ≤ i ∧ i ≤ 12) → (b = sp_gh (K k) (V k) f (i - 1)) → (b < i) → 12 - i < fu → jW X 5 [(0, .ref g), (1, .int (jI ((k : Nat) : Int))), (2, .ref t), (3, .int (jI ((b : Nat) : Int))), (4, .int (jI ((i : Nat) : Int)))] [] [oG g pg ki ((nh : Nat) : Int) rd a kp ik no su, aI cI ki 5 K, oA a le s h ch, aI cI le 5 V, oT t q, aI cI q 12 f] := by
    intro fu
    induction fu with
    | zero => intro i b hi hb0 hb12 hm; exact absurd hm (Nat.not_lt_zero _)
    | succ fu ih_2 =>
      intro i b hi hb0 hb12 hm
      refine jw_iload (pc := 5) C dX5_hourOfMostManners_5 4 rfl ?_
      refine jw_bipush (pc := 7) C dX5_hourOfMostManners_7 (by decide +kernel) ?_
      refine jw_icmp_ge (pc := 9) (tgt := 39) C dX5_hourOfMostManners_9 (by decide) (by omega) (by omega) (fun c_9 => ?_) (fun c_9 => ?_)
      · -- 9 t
        refine jw_iload_n (pc := 39) C dX5_hourOfMostManners_39 3 rfl ?_
        exact jw_iretR (pc := 40) C E dX5_hourOfMostManners_40 (by rw [hb0, show i = 12 by omega])
      · -- 9 f
        refine jw_aload_n (pc := 12) C dX5_hourOfMostManners_12 0 rfl ?_
        refine jw_iload_n (pc := 13) C dX5_hourOfMostManners_13 1 rfl ?_
        refine jw_aload_n (pc := 14) C dX5_hourOfMostManners_14 2 rfl ?_
        refine jw_iload (pc := 15) C dX5_hourOfMostManners_15 4 rfl ?_
        refine jw_callRV (pc := 17) C [.int (jI ((k : Nat) : Int)), .ref t, .int (jI ((i : Nat) : Int))] [] 3 (con_X5_mannersAt lau D cI cB g pg ki nh rd a kp ik no su K le s h ch V t q f k i (by omega) (by omega) hK hV hf) gX5_hourOfMostManners_X5_mannersAt rfl rfl rfl (by decide +kernel) ⟨Nat.le_of_ble_eq_true rfl, Nat.le_of_ble_eq_true rfl⟩ 0 rfl rfl [0, 1, 2, 3, 4, 5] rfl rfl (Nat.le_of_ble_eq_true rfl) rfl dX5_hourOfMostManners_17 ?_
        have b_17_0 := (sp_mann_b hf (by omega) (hV _ (by omega)) : 0 ≤ sp_mann (K k) (V k) f i ∧ sp_mann (K k) (V k) f i ≤ 20)
        refine jw_aload_n (pc := 20) C dX5_hourOfMostManners_20 0 rfl ?_
        refine jw_iload_n (pc := 21) C dX5_hourOfMostManners_21 1 rfl ?_
        refine jw_aload_n (pc := 22) C dX5_hourOfMostManners_22 2 rfl ?_
        refine jw_iload_n (pc := 23) C dX5_hourOfMostManners_23 3 rfl ?_
        refine jw_callRV (pc := 24) C [.int (jI ((k : Nat) : Int)), .ref t, .int (jI ((b : Nat) : Int))] [.int (jI (sp_mann (K k) (V k) f i))] 3 (con_X5_mannersAt lau D cI cB g pg ki nh rd a kp ik no su K le s h ch V t q f k b (by omega) (by omega) hK hV hf) gX5_hourOfMostManners_X5_mannersAt rfl rfl rfl (by decide +kernel) ⟨Nat.le_of_ble_eq_true rfl, Nat.le_of_ble_eq_true rfl⟩ 0 rfl rfl [0, 1, 2, 3, 4, 5] rfl rfl (Nat.le_of_ble_eq_true rfl) rfl dX5_hourOfMostManners_24 ?_
        have b_24_0 := (sp_mann_b hf (by omega) (hV _ (by omega)) : 0 ≤ sp_mann (K k) (V k) f b ∧ sp_mann (K k) (V k) f b ≤ 20)
        refine jw_icmp_le (pc := 27) (tgt := 33) C dX5_hourOfMostManners_27 (by decide) (by omega) (by omega) (fun c_27 => ?_) (fun c_27 => ?_)
        · -- 27 t
          refine jw_iinc (pc := 33) (z := ((i + 1 : Nat) : Int)) (lv' := [(4, .int (jI ((i + 1 : Nat) : Int))), (0, .ref g), (1, .int (jI ((k : Nat) : Int))), (2, .ref t), (3, .int (jI ((b : Nat) : Int)))]) C dX5_hourOfMostManners_33 4 rfl (by omega) (by decide) rfl ?_
          refine jw_goto (pc := 36) (tgt := 5) C dX5_hourOfMostManners_36 (by decide) ?_
          refine jw_lv [1, 2, 3, 4, 0] rfl ?_
          exact ih_2 (i + 1) b (by omega) (by show _ = sp_gh (K k) (V k) f i; first | (rw [sp_gh_t (by omega) (by rw [← hb0]; omega)]; done) | (rw [sp_gh_f (by omega) (by rw [← hb0]; omega), hb0]; done)) (by omega) (by omega)
        · -- 27 f
          refine jw_iload (pc := 30) C dX5_hourOfMostManners_30 4 rfl ?_
          refine jw_istore_n (pc := 32) (lv' := [(3, .int (jI ((i : Nat) : Int))), (0, .ref g), (1, .int (jI ((k : Nat) : Int))), (2, .ref t), (4, .int (jI ((i : Nat) : Int)))]) C dX5_hourOfMostManners_32 (by decide) rfl ?_
          refine jw_iinc (pc := 33) (z := ((i + 1 : Nat) : Int)) (lv' := [(4, .int (jI ((i + 1 : Nat) : Int))), (3, .int (jI ((i : Nat) : Int))), (0, .ref g), (1, .int (jI ((k : Nat) : Int))), (2, .ref t)]) C dX5_hourOfMostManners_33 4 rfl (by omega) (by decide) rfl ?_
          refine jw_goto (pc := 36) (tgt := 5) C dX5_hourOfMostManners_36 (by decide) ?_
          refine jw_lv [2, 3, 4, 1, 0] rfl ?_
          exact ih_2 (i + 1) i (by omega) (by show _ = sp_gh (K k) (V k) f i; first | (rw [sp_gh_t (by omega) (by rw [← hb0]; omega)]; done) | (rw [sp_gh_f (by omega) (by rw [← hb0]; omega), hb0]; done)) (by omega) (by omega)
  refine jw_lv [2, 3, 4, 1, 0] rfl ?_
  exact lp_5_1 ((12 - 1) + 1) 1 0 (by omega) rfl (by omega) (Nat.lt_succ_self _)
theorem fl_X5_canDine_65 : Cond.fieldLink RX5 65 "GongTide" "houseCount" "I" ∈ wsX5_canDine := by decide +kernel
theorem hi_X5_canDine_X5 : ∀ w ∈ wsX50, w ∈ wsX5_canDine := fun w h => List.mem_cons_of_mem _ (List.mem_append_left _ (List.mem_append_left _ (List.mem_append_right _ h)))
def rmX5_canDine : Room := { frames := 3, cells := 0, slots := 0, locals := 68 }
set_option maxHeartbeats 4000000 in
set_option maxRecDepth 100000 in
theorem con_X5_canDine (lau : Launch) (D : va_G) (cI cB : ClassId) (g : Nat) (pg : Nat) (ki : Nat) (nh : Nat) (rd : Int) (a : Nat) (kp : Nat) (ik : Int) (no : Nat) (su : Nat) (K : Nat → Int) (le : Nat) (s : Nat) (h : Nat) (ch : Int) (V : Nat → Int) (t : Nat) (q : Nat) (f : Nat → Int) (b : Nat) (s0 : Nat) (e : Nat) (hb : b < 1024) (he : e ≤ 12) (hs12 : s0 ≤ 12) (hnh : nh ≤ 5) (hK : ∀ x, x < 5 → 0 ≤ K x ∧ K x ≤ 4) (hV : ∀ x, x < 5 → 0 ≤ V x ∧ V x ≤ 9) (hf : ∀ k, k < 12 → 0 ≤ f k ∧ f k ≤ 99) : jMR lau yX5_canDine wsX5_canDine rmX5_canDine D cI cB [.ref g, .int (jI ((b : Nat) : Int)), .ref t, .int (jI ((s0 : Nat) : Int)), .int (jI ((e : Nat) : Int))] [oG g pg ki ((nh : Nat) : Int) rd a kp ik no su, aI cI ki 5 K, oA a le s h ch, aI cI le 5 V, oT t q, aI cI q 12 f] (.int (jI (jb (sp_din K V f b s0 e nh = true)))) := by
  refine jMR.of (own := RX5) (cc := cX5_canDine) (maxL := 8) (ret := (some .boolean)) rfl (by decide) rfl (Nat.le_of_ble_eq_true rfl) ?_
  intro X C E
  refine jw_lv (lv' := [(0, .ref g), (1, .int (jI ((b : Nat) : Int))), (2, .ref t), (3, .int (jI ((s0 : Nat) : Int))), (4, .int (jI ((e : Nat) : Int)))]) [0, 1, 2, 3, 4] rfl ?_
  refine jw_iconst (pc := 0) C dX5_canDine_0 ?_
  refine jw_istore (pc := 1) (lv' := [(5, .int (jI 0)), (0, .ref g), (1, .int (jI ((b : Nat) : Int))), (2, .ref t), (3, .int (jI ((s0 : Nat) : Int))), (4, .int (jI ((e : Nat) : Int)))]) C dX5_canDine_1 (by decide) rfl ?_
  have lp_3_1 : ∀ (fu : Nat) (x : Nat), (x ≤ nh) → (∀ y, y < x → sp_bit b y = 1 → ∀ w, w < e → s0 ≤ w → ¬ sp_hw (K y) (V y) f w = 0) → nh - x < fu → jW X 3 [(0, .ref g), (1, .int (jI ((b : Nat) : Int))), (2, .ref t), (3, .int (jI ((s0 : Nat) : Int))), (4, .int (jI ((e : Nat) : Int))), (5, .int (jI ((x : Nat) : Int)))] [] [oG g pg ki ((nh : Nat) : Int) rd a kp ik no su, aI cI ki 5 K, oA a le s h ch, aI cI le 5 V, oT t q, aI cI q 12 f] := by
    intro fu
    induction fu with
    | zero => intro x hx hd0 hm; exact absurd hm (Nat.not_lt_zero _)
    | succ fu ih_2 =>
      intro x hx hd0 hm
      refine jw_iload (pc := 3) C dX5_canDine_3 5 rfl ?_
      refine jw_aload_n (pc := 5) C dX5_canDine_5 0 rfl ?_
      refine jw_get (pc := 6) C hi_X5_canDine_X5 0 rfl rfl 2 (by decide) fl_X5_canDine_65 rfl rfl dX5_canDine_6 ?_
      refine jw_icmp_ge (pc := 9) (tgt := 73) C dX5_canDine_9 (by decide) (by omega) (by omega) (fun c_9 => ?_) (fun c_9 => ?_)
      · -- 9 t
        refine jw_iconst (pc := 73) C dX5_canDine_73 ?_
        exact jw_zretR (pc := 74) C E dX5_canDine_74 (congrArg jI (by exact jb_i1 (sp_din_iff.mpr (fun y hy => hd0 y (by omega))))) (jb_n _)
      · -- 9 f
        have jn_27_3 : ∀ (d : Int), (d = jb (sp_bit b x = 1)) → (0 ≤ d ∧ d ≤ 1) → jW X 27 [(0, .ref g), (1, .int (jI ((b : Nat) : Int))), (2, .ref t), (3, .int (jI ((s0 : Nat) : Int))), (4, .int (jI ((e : Nat) : Int))), (5, .int (jI ((x : Nat) : Int)))] [.int (jI d)] [oG g pg ki ((nh : Nat) : Int) rd a kp ik no su, aI cI ki 5 K, oA a le s h ch, aI cI le 5 V, oT t q, aI cI q 12 f] := by
          intro d hd hd1
          refine jw_istore (pc := 27) (lv' := [(6, .int (jI d)), (0, .ref g), (1, .int (jI ((b : Nat) : Int))), (2, .ref t), (3, .int (jI ((s0 : Nat) : Int))), (4, .int (jI ((e : Nat) : Int))), (5, .int (jI ((x : Nat) : Int)))]) C dX5_canDine_27 (by decide) rfl ?_
          refine jw_iload_n (pc := 29) C dX5_canDine_29 4 rfl ?_
          refine jw_istore (pc := 30) (lv' := [(7, .int (jI ((s0 : Nat) : Int))), (6, .int (jI d)), (0, .ref g), (1, .int (jI ((b : Nat) : Int))), (2, .ref t), (3, .int (jI ((s0 : Nat) : Int))), (4, .int (jI ((e : Nat) : Int))), (5, .int (jI ((x : Nat) : Int)))]) C dX5_canDine_30 (by decide) rfl ?_
          have lp_32_4 : ∀ (fu : Nat) (w : Nat), (s0 ≤ w ∧ w ≤ 12) → (∀ y, y < w → s0 ≤ y → ¬ sp_hw (K x) (V x) f y = 0) → e - w < fu → jW X 32 [(0, .ref g), (1, .int (jI ((b : Nat) : Int))), (2, .ref t), (3, .int (jI ((s0 : Nat) : Int))), (4, .int (jI ((e : Nat) : Int))), (5, .int (jI ((x : Nat) : Int))), (6, .int (jI d)), (7, .int (jI ((w : Nat) : Int)))] [] [oG g pg ki ((nh : Nat) : Int) rd a kp ik no su, aI cI ki 5 K, oA a le s h ch, aI cI le 5 V, oT t q, aI cI q 12 f] := by
            intro fu
            induction fu with
            | zero => intro w hw hin hm; exact absurd hm (Nat.not_lt_zero _)
            | succ fu ih_5 =>
              intro w hw hin hm
              refine jw_iload (pc := 32) C dX5_canDine_32 6 rfl ?_
              refine jw_if_eq (pc := 34) (tgt := 67) C dX5_canDine_34 (by decide) (by omega) (fun c_34 => ?_) (fun c_34 => ?_)
              · -- 34 t
                refine jw_iinc (pc := 67) (z := ((x + 1 : Nat) : Int)) (lv' := [(5, .int (jI ((x + 1 : Nat) : Int))), (0, .ref g), (1, .int (jI ((b : Nat) : Int))), (2, .ref t), (3, .int (jI ((s0 : Nat) : Int))), (4, .int (jI ((e : Nat) : Int))), (6, .int (jI d)), (7, .int (jI ((w : Nat) : Int)))]) C dX5_canDine_67 5 rfl (by omega) (by decide) rfl ?_
                refine jw_goto (pc := 70) (tgt := 3) C dX5_canDine_70 (by decide) ?_
                refine jw_lv [1, 2, 3, 4, 5, 0] rfl ?_
                exact ih_2 (x + 1) (by omega) (fun y hy hyb w hw hsw => by
                      by_cases ey : y = x
                      · subst ey; first | exact absurd hyb (jb_is0 hd c_34) | exact hin w (by omega) hsw
                      · exact hd0 y (by omega) hyb w hw hsw) (by omega)
              · -- 34 f
                refine jw_iload (pc := 37) C dX5_canDine_37 7 rfl ?_
                refine jw_iload (pc := 39) C dX5_canDine_39 4 rfl ?_
                refine jw_icmp_ge (pc := 41) (tgt := 67) C dX5_canDine_41 (by decide) (by omega) (by omega) (fun c_41 => ?_) (fun c_41 => ?_)
                · -- 41 t
                  refine jw_iinc (pc := 67) (z := ((x + 1 : Nat) : Int)) (lv' := [(5, .int (jI ((x + 1 : Nat) : Int))), (0, .ref g), (1, .int (jI ((b : Nat) : Int))), (2, .ref t), (3, .int (jI ((s0 : Nat) : Int))), (4, .int (jI ((e : Nat) : Int))), (6, .int (jI d)), (7, .int (jI ((w : Nat) : Int)))]) C dX5_canDine_67 5 rfl (by omega) (by decide) rfl ?_
                  refine jw_goto (pc := 70) (tgt := 3) C dX5_canDine_70 (by decide) ?_
                  refine jw_lv [1, 2, 3, 4, 5, 0] rfl ?_
                  exact ih_2 (x + 1) (by omega) (fun y hy hyb w hw hsw => by
                        by_cases ey : y = x
                        · subst ey; first | exact absurd hyb (jb_is0 hd c_34) | exact hin w (by omega) hsw
                        · exact hd0 y (by omega) hyb w hw hsw) (by omega)
                · -- 41 f
                  refine jw_aload_n (pc := 44) C dX5_canDine_44 0 rfl ?_
                  refine jw_iload (pc := 45) C dX5_canDine_45 5 rfl ?_
                  refine jw_aload_n (pc := 47) C dX5_canDine_47 2 rfl ?_
                  refine jw_iload (pc := 48) C dX5_canDine_48 7 rfl ?_
                  refine jw_callRV (pc := 50) C [.int (jI ((x : Nat) : Int)), .ref t, .int (jI ((w : Nat) : Int))] [] 3 (con_X5_mannersAt lau D cI cB g pg ki nh rd a kp ik no su K le s h ch V t q f x w (by omega) (by omega) hK hV hf) gX5_canDine_X5_mannersAt rfl rfl rfl (by decide +kernel) ⟨Nat.le_of_ble_eq_true rfl, Nat.le_of_ble_eq_true rfl⟩ 0 rfl rfl [0, 1, 2, 3, 4, 5] rfl rfl (Nat.le_of_ble_eq_true rfl) rfl dX5_canDine_50 ?_
                  have b_50_0 := (sp_mann_b hf (by omega) (hV _ (by omega)) : 0 ≤ sp_mann (K x) (V x) f w ∧ sp_mann (K x) (V x) f w ≤ 20)
                  refine jw_callRS (pc := 53) C [.int (jI (((sp_mann (K x) (V x) f w))))] [] 1 (con_X5_howAt lau D cI cB ((sp_mann (K x) (V x) f w)) (by omega)) gX5_canDine_X5_howAt rfl rfl rfl (by decide +kernel) ⟨Nat.le_of_ble_eq_true rfl, Nat.le_of_ble_eq_true rfl⟩ [] rfl rfl (Nat.le_of_ble_eq_true rfl) rfl dX5_canDine_53 ?_
                  have b_53_0 := sp_how_b ((sp_mann (K x) (V x) f w))
                  refine jw_if_ne (pc := 56) (tgt := 61) C dX5_canDine_56 (by decide) (by omega) (fun c_56 => ?_) (fun c_56 => ?_)
                  · -- 56 t
                    refine jw_iinc (pc := 61) (z := ((w + 1 : Nat) : Int)) (lv' := [(7, .int (jI ((w + 1 : Nat) : Int))), (0, .ref g), (1, .int (jI ((b : Nat) : Int))), (2, .ref t), (3, .int (jI ((s0 : Nat) : Int))), (4, .int (jI ((e : Nat) : Int))), (5, .int (jI ((x : Nat) : Int))), (6, .int (jI d))]) C dX5_canDine_61 7 rfl (by omega) (by decide) rfl ?_
                    refine jw_goto (pc := 64) (tgt := 32) C dX5_canDine_64 (by decide) ?_
                    refine jw_lv [1, 2, 3, 4, 5, 6, 7, 0] rfl ?_
                    exact ih_5 (w + 1) (by omega) (fun y hy hy2 => by
                          by_cases ey : y = w
                          · subst ey; exact c_56
                          · exact hin y (by omega) hy2) (by omega)
                  · -- 56 f
                    refine jw_iconst (pc := 59) C dX5_canDine_59 ?_
                    exact jw_zretR (pc := 60) C E dX5_canDine_60 (congrArg jI (by exact jb_i0 (fun q => sp_din_iff.mp q x (by omega) (jb_is1 hd c_34) w (by omega) (by omega) c_56))) (jb_n _)
          refine jw_lv [2, 3, 4, 5, 6, 7, 1, 0] rfl ?_
          exact lp_32_4 ((e - s0) + 1) s0 (by omega) (fun y hy hy2 => absurd hy (by omega)) (Nat.lt_succ_self _)
        refine jw_iload_n (pc := 12) C dX5_canDine_12 1 rfl ?_
        refine jw_iload (pc := 13) C dX5_canDine_13 5 rfl ?_
        refine jw_ishr (pc := 15) C (jI ((b / 2 ^ x : Nat) : Int)) dX5_canDine_15 (jI_shr (by omega) (by omega)) ?_
        refine jw_iconst (pc := 16) C dX5_canDine_16 ?_
        refine jw_iand (pc := 17) C (jI ((sp_bit b x : Nat) : Int)) dX5_canDine_17 (jI_and1 (Nat.lt_of_le_of_lt (Nat.div_le_self _ _) (by omega))) ?_
        have hbt := sp_bit_b b x
        refine jw_iconst (pc := 18) C dX5_canDine_18 ?_
        refine jw_icmp_ne (pc := 19) (tgt := 26) C dX5_canDine_19 (by decide) (by omega) (by omega) (fun c_19 => ?_) (fun c_19 => ?_)
        · -- 19 t
          refine jw_iconst (pc := 26) C dX5_canDine_26 ?_
          refine jw_lv [0, 1, 2, 3, 4, 5] rfl ?_
          exact jn_27_3 0 (by first | exact jb_i1 (by omega) | exact jb_i0 (by omega)) (by omega)
        · -- 19 f
          refine jw_iconst (pc := 22) C dX5_canDine_22 ?_
          refine jw_goto (pc := 23) (tgt := 27) C dX5_canDine_23 (by decide) ?_
          refine jw_lv [0, 1, 2, 3, 4, 5] rfl ?_
          exact jn_27_3 1 (by first | exact jb_i1 (by omega) | exact jb_i0 (by omega)) (by omega)
  refine jw_lv [1, 2, 3, 4, 5, 0] rfl ?_
  exact lp_3_1 ((nh - 0) + 1) 0 (by omega) (fun y hy => absurd hy (Nat.not_lt_zero _)) (Nat.lt_succ_self _)
