theorem fl_X5_about_23 : Cond.fieldLink RX5 23 "GongTide" "affairs" "LGongTide$Affairs;" ∈ wsX5_about := by decide +kernel
theorem hi_X5_about_X5 : ∀ w ∈ wsX50, w ∈ wsX5_about := fun w h => List.mem_cons_of_mem _ (List.mem_append_left _ (List.mem_append_left _ (List.mem_append_left _ (List.mem_append_right _ h))))
def rmX5_about : Room := { frames := 4, cells := 0, slots := 0, locals := 93 }
set_option maxHeartbeats 4000000 in
set_option maxRecDepth 100000 in
theorem con_X5_about (lau : Launch) (D : va_G) (cI cB : ClassId) (g : Nat) (pg : Nat) (ki : Nat) (nh : Nat) (rd : Int) (a : Nat) (kp : Nat) (ik : Int) (no : Nat) (su : Nat) (K : Nat → Int) (le : Nat) (s : Nat) (h : Nat) (ch : Int) (V : Nat → Int) (hr : Nat) (lo : Nat) (n : Nat) (SH : Nat → Int) (SL : Nat → Int) (qn : Nat) (f0 : Nat → Int) (z : Int) (w : Int) (hnh : nh ≤ 5) (h2 : n ≤ 6) (hS : ∀ x, x < n → 0 ≤ SH x ∧ SH x ≤ 9 ∧ 0 ≤ SL x ∧ SL x ≤ 9) (hK : ∀ x, x < 5 → 0 ≤ K x ∧ K x ≤ 4) (hV : ∀ x, x < 5 → 0 ≤ V x ∧ V x ≤ 9) (hz : -2147483648 ≤ z ∧ z < 2147483648) (hw : -2147483648 ≤ w ∧ w < 2147483648) : jMW (S := Nat → Int) lau yX5_about wsX5_about rmX5_about D cI cB [.ref g, .int (jI z), .int (jI w)] [oG g pg ki ((nh : Nat) : Int) rd a kp ik no su, aI cI ki 5 K, oA a le s h ch, aI cI le 5 V, oS s hr lo ((n : Nat) : Int), aI cI hr 6 SH, aI cI lo 6 SL, oT no qn, aI cI qn 12 f0] (fun u => some (.int (jI (sp_about nh K V (sp_sum SH SL n) z w)))) (fun u => True) (fun u => [oG g pg ki ((nh : Nat) : Int) rd a kp ik no su, aI cI ki 5 K, oA a le s h ch, aI cI le 5 V, oS s hr lo ((n : Nat) : Int), aI cI hr 6 SH, aI cI lo 6 SL, oT no qn, aI cI qn 12 u]) := by
  refine jMW.of (own := RX5) (cc := cX5_about) (maxL := 4) (ret := (some .int)) rfl (by decide) rfl (Nat.le_of_ble_eq_true rfl) ?_
  intro X C E
  refine jw_lv (lv' := [(0, .ref g), (1, .int (jI z)), (2, .int (jI w))]) [0, 1, 2] rfl ?_
  have hR54 := sp_sum_99 (SH := SH) (SL := SL) (n := n) h2 (fun x hx => (hS x hx).2.2)
  have hR99 := sp_99 hR54
  refine jw_aload_n (pc := 0) C dX5_about_0 0 rfl ?_
  refine jw_iload_n (pc := 1) C dX5_about_1 1 rfl ?_
  refine jw_callRV (pc := 2) C [.int (jI z)] [] 1 (con_X5_isHouse lau D cI cB g pg ki nh rd a kp ik no su z (by omega) (by omega)) gX5_about_X5_isHouse rfl rfl rfl (by decide +kernel) ⟨Nat.le_of_ble_eq_true rfl, Nat.le_of_ble_eq_true rfl⟩ 0 rfl rfl [0] rfl rfl (Nat.le_of_ble_eq_true rfl) rfl dX5_about_2 ?_
  refine jw_ifb_ne (pc := 5) (tgt := 11) C dX5_about_5 (by decide) (fun c_5 => ?_) (fun c_5 => ?_)
  · -- 5 t
    obtain ⟨kz, rfl⟩ : ∃ kz : Nat, z = ((kz : Nat) : Int) := ⟨(z).toNat, by omega⟩
    refine jw_iload_n (pc := 11) C dX5_about_11 2 rfl ?_
    refine jw_iconst (pc := 12) C dX5_about_12 ?_
    refine jw_iconst (pc := 13) C dX5_about_13 ?_
    refine jw_callRS (pc := 14) C [.int (jI w), .int (jI 0), .int (jI 4)] [] 3 (con_X5_isWithin lau D cI cB w 0 4 (by omega) (by omega) (by omega)) gX5_about_X5_isWithin rfl rfl rfl (by decide +kernel) ⟨Nat.le_of_ble_eq_true rfl, Nat.le_of_ble_eq_true rfl⟩ [] rfl rfl (Nat.le_of_ble_eq_true rfl) rfl dX5_about_14 ?_
    refine jw_ifb_ne (pc := 17) (tgt := 34) C dX5_about_17 (by decide) (fun c_17 => ?_) (fun c_17 => ?_)
    · -- 17 t
      refine jw_aload_n (pc := 34) C dX5_about_34 0 rfl ?_
      refine jw_callWV (pc := 35) C [] [] 0 (con_X5_tideNow lau D cI cB g pg ki nh rd a kp ik no su le s h ch hr lo n SH SL qn f0 (by omega) hS) gX5_about_X5_tideNow rfl rfl rfl (by decide +kernel) ⟨Nat.le_of_ble_eq_true rfl, Nat.le_of_ble_eq_true rfl⟩ 0 rfl rfl [0, 2, 4, 5, 6, 7, 8] [1, 3] [2, 0, 3, 1, 4, 5, 6, 7, 8] (wr := [aI cI ki 5 K, aI cI le 5 V]) rfl rfl (by decide) (by decide) (fun _ => rfl) (wN := fun u_35_1 => [oG g pg ki ((nh : Nat) : Int) rd a kp ik no su, aI cI ki 5 K, oA a le s h ch, aI cI le 5 V, oS s hr lo ((n : Nat) : Int), aI cI hr 6 SH, aI cI lo 6 SL, oT no qn, aI cI qn 12 (sp_sum SH SL n)]) (fun _ => rfl) (stN := fun u_35_1 => [.ref no]) (fun _ => rfl) rfl (Nat.le_of_ble_eq_true rfl) rfl dX5_about_35 (fun u_35_1 hu_35_1 => ?_)
      refine jw_astore_n (pc := 38) (lv' := [(3, .ref no), (0, .ref g), (1, .int (jI ((kz : Nat) : Int))), (2, .int (jI w))]) C dX5_about_38 (by decide) rfl ?_
      refine jw_iload_n (pc := 39) C dX5_about_39 3 rfl ?_
      by_cases sw_40_0 : w = 0
      · -- case 0
        refine jw_table (pc := 40) (tgt := 76) C dX5_about_40 (by omega) (by omega) (by omega) (by rw [sw_40_0]; rfl) (by decide) ?_
        refine jw_aload_n (pc := 76) C dX5_about_76 1 rfl ?_
        refine jw_iload_n (pc := 77) C dX5_about_77 2 rfl ?_
        refine jw_callRV (pc := 78) C [.int (jI ((kz : Nat) : Int))] [] 1 (con_X5_kindAt lau D cI cB g pg ki nh rd a kp ik no su K kz (by omega)) gX5_about_X5_kindAt rfl rfl rfl (by decide +kernel) ⟨Nat.le_of_ble_eq_true rfl, Nat.le_of_ble_eq_true rfl⟩ 0 rfl rfl [0, 1] rfl rfl (Nat.le_of_ble_eq_true rfl) rfl dX5_about_78 ?_
        exact jw_iretW (pc := 81) C E dX5_about_81 ((sp_sum SH SL n)) (congrArg (fun z => some (Value.int (jI z))) (by unfold sp_about sp_house; (try simp only [Int.toNat_natCast]); (repeat' split) <;> first | rfl | omega)) trivial rfl
      ·
        by_cases sw_40_1 : w = 1
        · -- case 1
          refine jw_table (pc := 40) (tgt := 82) C dX5_about_40 (by omega) (by omega) (by omega) (by rw [sw_40_1]; rfl) (by decide) ?_
          refine jw_aload_n (pc := 82) C dX5_about_82 1 rfl ?_
          refine jw_get (pc := 83) C hi_X5_about_X5 0 rfl rfl 4 (by decide) fl_X5_about_23 rfl rfl dX5_about_83 ?_
          refine jw_iload_n (pc := 86) C dX5_about_86 2 rfl ?_
          refine jw_callRV (pc := 87) C [.int (jI ((kz : Nat) : Int))] [] 1 (con_X0_level lau D cI cB a le s h ch V kz (by omega)) gX5_about_X0_level rfl rfl rfl (by decide +kernel) ⟨Nat.le_of_ble_eq_true rfl, Nat.le_of_ble_eq_true rfl⟩ 2 rfl rfl [2, 3] rfl rfl (Nat.le_of_ble_eq_true rfl) rfl dX5_about_87 ?_
          exact jw_iretW (pc := 90) C E dX5_about_90 ((sp_sum SH SL n)) (congrArg (fun z => some (Value.int (jI z))) (by unfold sp_about sp_house; (try simp only [Int.toNat_natCast]); (repeat' split) <;> first | rfl | omega)) trivial rfl
        ·
          by_cases sw_40_2 : w = 2
          · -- case 2
            refine jw_table (pc := 40) (tgt := 91) C dX5_about_40 (by omega) (by omega) (by omega) (by rw [sw_40_2]; rfl) (by decide) ?_
            refine jw_aload_n (pc := 91) C dX5_about_91 1 rfl ?_
            refine jw_iconst (pc := 92) C dX5_about_92 ?_
            refine jw_iload_n (pc := 93) C dX5_about_93 2 rfl ?_
            refine jw_aload_n (pc := 94) C dX5_about_94 0 rfl ?_
            refine jw_callRV (pc := 95) C [.int (jI 0), .int (jI ((kz : Nat) : Int)), .ref no] [] 3 (con_X5_hoursOf lau D cI cB g pg ki nh rd a kp ik no su K le s h ch V no qn (sp_sum SH SL n) 0 kz (by omega) (by omega) hK hV hR99) gX5_about_X5_hoursOf rfl rfl rfl (by decide +kernel) ⟨Nat.le_of_ble_eq_true rfl, Nat.le_of_ble_eq_true rfl⟩ 0 rfl rfl [0, 1, 2, 3, 7, 8] rfl rfl (Nat.le_of_ble_eq_true rfl) rfl dX5_about_95 ?_
            have b_95_0 := sp_ho_b (K kz) (V kz) (sp_sum SH SL n) 0
            exact jw_iretW (pc := 98) C E dX5_about_98 ((sp_sum SH SL n)) (congrArg (fun z => some (Value.int (jI z))) (by unfold sp_about sp_house; (try simp only [Int.toNat_natCast]); (repeat' split) <;> first | rfl | omega)) trivial rfl
          ·
            by_cases sw_40_3 : w = 3
            · -- case 3
              refine jw_table (pc := 40) (tgt := 99) C dX5_about_40 (by omega) (by omega) (by omega) (by rw [sw_40_3]; rfl) (by decide) ?_
              refine jw_aload_n (pc := 99) C dX5_about_99 1 rfl ?_
              refine jw_iload_n (pc := 100) C dX5_about_100 2 rfl ?_
              refine jw_aload_n (pc := 101) C dX5_about_101 0 rfl ?_
              refine jw_aload_n (pc := 102) C dX5_about_102 1 rfl ?_
              refine jw_iload_n (pc := 103) C dX5_about_103 2 rfl ?_
              refine jw_aload_n (pc := 104) C dX5_about_104 0 rfl ?_
              refine jw_callRV (pc := 105) C [.int (jI ((kz : Nat) : Int)), .ref no] [.ref no, .int (jI ((kz : Nat) : Int)), .ref g] 2 (con_X5_hourOfMostManners lau D cI cB g pg ki nh rd a kp ik no su K le s h ch V no qn (sp_sum SH SL n) kz (by omega) hK hV hR99) gX5_about_X5_hourOfMostManners rfl rfl rfl (by decide +kernel) ⟨Nat.le_of_ble_eq_true rfl, Nat.le_of_ble_eq_true rfl⟩ 0 rfl rfl [0, 1, 2, 3, 7, 8] rfl rfl (Nat.le_of_ble_eq_true rfl) rfl dX5_about_105 ?_
              have b_105_0 := sp_gh_b (K kz) (V kz) (sp_sum SH SL n) 11
              refine jw_callRV (pc := 108) C [.int (jI ((kz : Nat) : Int)), .ref no, .int (jI (((sp_gh (K kz) (V kz) (sp_sum SH SL n) 11) : Nat) : Int))] [] 3 (con_X5_mannersAt lau D cI cB g pg ki nh rd a kp ik no su K le s h ch V no qn (sp_sum SH SL n) kz (sp_gh (K kz) (V kz) (sp_sum SH SL n) 11) (by omega) (by omega) hK hV hR99) gX5_about_X5_mannersAt rfl rfl rfl (by decide +kernel) ⟨Nat.le_of_ble_eq_true rfl, Nat.le_of_ble_eq_true rfl⟩ 0 rfl rfl [0, 1, 2, 3, 7, 8] rfl rfl (Nat.le_of_ble_eq_true rfl) rfl dX5_about_108 ?_
              have b_108_0 := (sp_mann_b hR99 (by omega) (hV _ (by omega)) : 0 ≤ sp_mann (K kz) (V kz) (sp_sum SH SL n) (sp_gh (K kz) (V kz) (sp_sum SH SL n) 11) ∧ sp_mann (K kz) (V kz) (sp_sum SH SL n) (sp_gh (K kz) (V kz) (sp_sum SH SL n) 11) ≤ 20)
              exact jw_iretW (pc := 111) C E dX5_about_111 ((sp_sum SH SL n)) (congrArg (fun z => some (Value.int (jI z))) (by unfold sp_about sp_house; (try simp only [Int.toNat_natCast]); (repeat' split) <;> first | rfl | omega)) trivial rfl
            ·
              by_cases sw_40_4 : w = 4
              · -- case 4
                refine jw_table (pc := 40) (tgt := 112) C dX5_about_40 (by omega) (by omega) (by omega) (by rw [sw_40_4]; rfl) (by decide) ?_
                refine jw_aload_n (pc := 112) C dX5_about_112 1 rfl ?_
                refine jw_iload_n (pc := 113) C dX5_about_113 2 rfl ?_
                refine jw_aload_n (pc := 114) C dX5_about_114 0 rfl ?_
                refine jw_callRV (pc := 115) C [.int (jI ((kz : Nat) : Int)), .ref no] [] 2 (con_X5_hourOfMostManners lau D cI cB g pg ki nh rd a kp ik no su K le s h ch V no qn (sp_sum SH SL n) kz (by omega) hK hV hR99) gX5_about_X5_hourOfMostManners rfl rfl rfl (by decide +kernel) ⟨Nat.le_of_ble_eq_true rfl, Nat.le_of_ble_eq_true rfl⟩ 0 rfl rfl [0, 1, 2, 3, 7, 8] rfl rfl (Nat.le_of_ble_eq_true rfl) rfl dX5_about_115 ?_
                have b_115_0 := sp_gh_b (K kz) (V kz) (sp_sum SH SL n) 11
                exact jw_iretW (pc := 118) C E dX5_about_118 ((sp_sum SH SL n)) (congrArg (fun z => some (Value.int (jI z))) (by unfold sp_about sp_house; (try simp only [Int.toNat_natCast]); (repeat' split) <;> first | rfl | omega)) trivial rfl
              ·
                refine jw_tableOut (pc := 40) (tgt := 119) C dX5_about_40 (by omega) (by omega) (by decide) ?_
                have hw10 : 10 ≤ w ∧ w ≤ 21 := by omega
                refine jw_aload_n (pc := 119) C dX5_about_119 1 rfl ?_
                refine jw_iload_n (pc := 120) C dX5_about_120 2 rfl ?_
                refine jw_aload_n (pc := 121) C dX5_about_121 0 rfl ?_
                refine jw_iload_n (pc := 122) C dX5_about_122 3 rfl ?_
                refine jw_bipush (pc := 123) C dX5_about_123 (by decide +kernel) ?_
                refine jw_isub (pc := 125) (z := (w - 10)) C dX5_about_125 rfl ?_
                refine jw_top (y := jI (((w - 10).toNat : Nat) : Int)) (congrArg jI (by omega)) ?_
                refine jw_callRV (pc := 126) C [.int (jI ((kz : Nat) : Int)), .ref no, .int (jI ((((w - 10).toNat) : Nat) : Int))] [] 3 (con_X5_mannersAt lau D cI cB g pg ki nh rd a kp ik no su K le s h ch V no qn (sp_sum SH SL n) kz ((w - 10).toNat) (by omega) (by omega) hK hV hR99) gX5_about_X5_mannersAt rfl rfl rfl (by decide +kernel) ⟨Nat.le_of_ble_eq_true rfl, Nat.le_of_ble_eq_true rfl⟩ 0 rfl rfl [0, 1, 2, 3, 7, 8] rfl rfl (Nat.le_of_ble_eq_true rfl) rfl dX5_about_126 ?_
                have b_126_0 := (sp_mann_b hR99 (by omega) (hV _ (by omega)) : 0 ≤ sp_mann (K kz) (V kz) (sp_sum SH SL n) ((w - 10).toNat) ∧ sp_mann (K kz) (V kz) (sp_sum SH SL n) ((w - 10).toNat) ≤ 20)
                exact jw_iretW (pc := 129) C E dX5_about_129 ((sp_sum SH SL n)) (congrArg (fun z => some (Value.int (jI z))) (by unfold sp_about sp_house; (try simp only [Int.toNat_natCast]); (repeat' split) <;> first | rfl | omega)) trivial rfl
    · -- 17 f
      refine jw_iload_n (pc := 20) C dX5_about_20 2 rfl ?_
      refine jw_bipush (pc := 21) C dX5_about_21 (by decide +kernel) ?_
      refine jw_bipush (pc := 23) C dX5_about_23 (by decide +kernel) ?_
      refine jw_callRS (pc := 25) C [.int (jI w), .int (jI 10), .int (jI 21)] [] 3 (con_X5_isWithin lau D cI cB w 10 21 (by omega) (by omega) (by omega)) gX5_about_X5_isWithin rfl rfl rfl (by decide +kernel) ⟨Nat.le_of_ble_eq_true rfl, Nat.le_of_ble_eq_true rfl⟩ [] rfl rfl (Nat.le_of_ble_eq_true rfl) rfl dX5_about_25 ?_
      refine jw_ifb_ne (pc := 28) (tgt := 34) C dX5_about_28 (by decide) (fun c_28 => ?_) (fun c_28 => ?_)
      · -- 28 t
        refine jw_aload_n (pc := 34) C dX5_about_34 0 rfl ?_
        refine jw_callWV (pc := 35) C [] [] 0 (con_X5_tideNow lau D cI cB g pg ki nh rd a kp ik no su le s h ch hr lo n SH SL qn f0 (by omega) hS) gX5_about_X5_tideNow rfl rfl rfl (by decide +kernel) ⟨Nat.le_of_ble_eq_true rfl, Nat.le_of_ble_eq_true rfl⟩ 0 rfl rfl [0, 2, 4, 5, 6, 7, 8] [1, 3] [2, 0, 3, 1, 4, 5, 6, 7, 8] (wr := [aI cI ki 5 K, aI cI le 5 V]) rfl rfl (by decide) (by decide) (fun _ => rfl) (wN := fun u_35_2 => [oG g pg ki ((nh : Nat) : Int) rd a kp ik no su, aI cI ki 5 K, oA a le s h ch, aI cI le 5 V, oS s hr lo ((n : Nat) : Int), aI cI hr 6 SH, aI cI lo 6 SL, oT no qn, aI cI qn 12 (sp_sum SH SL n)]) (fun _ => rfl) (stN := fun u_35_2 => [.ref no]) (fun _ => rfl) rfl (Nat.le_of_ble_eq_true rfl) rfl dX5_about_35 (fun u_35_2 hu_35_2 => ?_)
        refine jw_astore_n (pc := 38) (lv' := [(3, .ref no), (0, .ref g), (1, .int (jI ((kz : Nat) : Int))), (2, .int (jI w))]) C dX5_about_38 (by decide) rfl ?_
        refine jw_iload_n (pc := 39) C dX5_about_39 3 rfl ?_
        by_cases sw_40_0 : w = 0
        · -- case 0
          refine jw_table (pc := 40) (tgt := 76) C dX5_about_40 (by omega) (by omega) (by omega) (by rw [sw_40_0]; rfl) (by decide) ?_
          refine jw_aload_n (pc := 76) C dX5_about_76 1 rfl ?_
          refine jw_iload_n (pc := 77) C dX5_about_77 2 rfl ?_
          refine jw_callRV (pc := 78) C [.int (jI ((kz : Nat) : Int))] [] 1 (con_X5_kindAt lau D cI cB g pg ki nh rd a kp ik no su K kz (by omega)) gX5_about_X5_kindAt rfl rfl rfl (by decide +kernel) ⟨Nat.le_of_ble_eq_true rfl, Nat.le_of_ble_eq_true rfl⟩ 0 rfl rfl [0, 1] rfl rfl (Nat.le_of_ble_eq_true rfl) rfl dX5_about_78 ?_
          exact jw_iretW (pc := 81) C E dX5_about_81 ((sp_sum SH SL n)) (congrArg (fun z => some (Value.int (jI z))) (by unfold sp_about sp_house; (try simp only [Int.toNat_natCast]); (repeat' split) <;> first | rfl | omega)) trivial rfl
        ·
          by_cases sw_40_1 : w = 1
          · -- case 1
            refine jw_table (pc := 40) (tgt := 82) C dX5_about_40 (by omega) (by omega) (by omega) (by rw [sw_40_1]; rfl) (by decide) ?_
            refine jw_aload_n (pc := 82) C dX5_about_82 1 rfl ?_
            refine jw_get (pc := 83) C hi_X5_about_X5 0 rfl rfl 4 (by decide) fl_X5_about_23 rfl rfl dX5_about_83 ?_
            refine jw_iload_n (pc := 86) C dX5_about_86 2 rfl ?_
            refine jw_callRV (pc := 87) C [.int (jI ((kz : Nat) : Int))] [] 1 (con_X0_level lau D cI cB a le s h ch V kz (by omega)) gX5_about_X0_level rfl rfl rfl (by decide +kernel) ⟨Nat.le_of_ble_eq_true rfl, Nat.le_of_ble_eq_true rfl⟩ 2 rfl rfl [2, 3] rfl rfl (Nat.le_of_ble_eq_true rfl) rfl dX5_about_87 ?_
            exact jw_iretW (pc := 90) C E dX5_about_90 ((sp_sum SH SL n)) (congrArg (fun z => some (Value.int (jI z))) (by unfold sp_about sp_house; (try simp only [Int.toNat_natCast]); (repeat' split) <;> first | rfl | omega)) trivial rfl
          ·
            by_cases sw_40_2 : w = 2
            · -- case 2
              refine jw_table (pc := 40) (tgt := 91) C dX5_about_40 (by omega) (by omega) (by omega) (by rw [sw_40_2]; rfl) (by decide) ?_
              refine jw_aload_n (pc := 91) C dX5_about_91 1 rfl ?_
              refine jw_iconst (pc := 92) C dX5_about_92 ?_
              refine jw_iload_n (pc := 93) C dX5_about_93 2 rfl ?_
              refine jw_aload_n (pc := 94) C dX5_about_94 0 rfl ?_
              refine jw_callRV (pc := 95) C [.int (jI 0), .int (jI ((kz : Nat) : Int)), .ref no] [] 3 (con_X5_hoursOf lau D cI cB g pg ki nh rd a kp ik no su K le s h ch V no qn (sp_sum SH SL n) 0 kz (by omega) (by omega) hK hV hR99) gX5_about_X5_hoursOf rfl rfl rfl (by decide +kernel) ⟨Nat.le_of_ble_eq_true rfl, Nat.le_of_ble_eq_true rfl⟩ 0 rfl rfl [0, 1, 2, 3, 7, 8] rfl rfl (Nat.le_of_ble_eq_true rfl) rfl dX5_about_95 ?_
              have b_95_0 := sp_ho_b (K kz) (V kz) (sp_sum SH SL n) 0
              exact jw_iretW (pc := 98) C E dX5_about_98 ((sp_sum SH SL n)) (congrArg (fun z => some (Value.int (jI z))) (by unfold sp_about sp_house; (try simp only [Int.toNat_natCast]); (repeat' split) <;> first | rfl | omega)) trivial rfl
            ·
              by_cases sw_40_3 : w = 3
              · -- case 3
                refine jw_table (pc := 40) (tgt := 99) C dX5_about_40 (by omega) (by omega) (by omega) (by rw [sw_40_3]; rfl) (by decide) ?_
                refine jw_aload_n (pc := 99) C dX5_about_99 1 rfl ?_
                refine jw_iload_n (pc := 100) C dX5_about_100 2 rfl ?_
                refine jw_aload_n (pc := 101) C dX5_about_101 0 rfl ?_
                refine jw_aload_n (pc := 102) C dX5_about_102 1 rfl ?_
                refine jw_iload_n (pc := 103) C dX5_about_103 2 rfl ?_
                refine jw_aload_n (pc := 104) C dX5_about_104 0 rfl ?_
                refine jw_callRV (pc := 105) C [.int (jI ((kz : Nat) : Int)), .ref no] [.ref no, .int (jI ((kz : Nat) : Int)), .ref g] 2 (con_X5_hourOfMostManners lau D cI cB g pg ki nh rd a kp ik no su K le s h ch V no qn (sp_sum SH SL n) kz (by omega) hK hV hR99) gX5_about_X5_hourOfMostManners rfl rfl rfl (by decide +kernel) ⟨Nat.le_of_ble_eq_true rfl, Nat.le_of_ble_eq_true rfl⟩ 0 rfl rfl [0, 1, 2, 3, 7, 8] rfl rfl (Nat.le_of_ble_eq_true rfl) rfl dX5_about_105 ?_
                have b_105_0 := sp_gh_b (K kz) (V kz) (sp_sum SH SL n) 11
                refine jw_callRV (pc := 108) C [.int (jI ((kz : Nat) : Int)), .ref no, .int (jI (((sp_gh (K kz) (V kz) (sp_sum SH SL n) 11) : Nat) : Int))] [] 3 (con_X5_mannersAt lau D cI cB g pg ki nh rd a kp ik no su K le s h ch V no qn (sp_sum SH SL n) kz (sp_gh (K kz) (V kz) (sp_sum SH SL n) 11) (by omega) (by omega) hK hV hR99) gX5_about_X5_mannersAt rfl rfl rfl (by decide +kernel) ⟨Nat.le_of_ble_eq_true rfl, Nat.le_of_ble_eq_true rfl⟩ 0 rfl rfl [0, 1, 2, 3, 7, 8] rfl rfl (Nat.le_of_ble_eq_true rfl) rfl dX5_about_108 ?_
                have b_108_0 := (sp_mann_b hR99 (by omega) (hV _ (by omega)) : 0 ≤ sp_mann (K kz) (V kz) (sp_sum SH SL n) (sp_gh (K kz) (V kz) (sp_sum SH SL n) 11) ∧ sp_mann (K kz) (V kz) (sp_sum SH SL n) (sp_gh (K kz) (V kz) (sp_sum SH SL n) 11) ≤ 20)
                exact jw_iretW (pc := 111) C E dX5_about_111 ((sp_sum SH SL n)) (congrArg (fun z => some (Value.int (jI z))) (by unfold sp_about sp_house; (try simp only [Int.toNat_natCast]); (repeat' split) <;> first | rfl | omega)) trivial rfl
              ·
                by_cases sw_40_4 : w = 4
                · -- case 4
                  refine jw_table (pc := 40) (tgt := 112) C dX5_about_40 (by omega) (by omega) (by omega) (by rw [sw_40_4]; rfl) (by decide) ?_
                  refine jw_aload_n (pc := 112) C dX5_about_112 1 rfl ?_
                  refine jw_iload_n (pc := 113) C dX5_about_113 2 rfl ?_
                  refine jw_aload_n (pc := 114) C dX5_about_114 0 rfl ?_
                  refine jw_callRV (pc := 115) C [.int (jI ((kz : Nat) : Int)), .ref no] [] 2 (con_X5_hourOfMostManners lau D cI cB g pg ki nh rd a kp ik no su K le s h ch V no qn (sp_sum SH SL n) kz (by omega) hK hV hR99) gX5_about_X5_hourOfMostManners rfl rfl rfl (by decide +kernel) ⟨Nat.le_of_ble_eq_true rfl, Nat.le_of_ble_eq_true rfl⟩ 0 rfl rfl [0, 1, 2, 3, 7, 8] rfl rfl (Nat.le_of_ble_eq_true rfl) rfl dX5_about_115 ?_
                  have b_115_0 := sp_gh_b (K kz) (V kz) (sp_sum SH SL n) 11
                  exact jw_iretW (pc := 118) C E dX5_about_118 ((sp_sum SH SL n)) (congrArg (fun z => some (Value.int (jI z))) (by unfold sp_about sp_house; (try simp only [Int.toNat_natCast]); (repeat' split) <;> first | rfl | omega)) trivial rfl
                ·
                  refine jw_tableOut (pc := 40) (tgt := 119) C dX5_about_40 (by omega) (by omega) (by decide) ?_
                  have hw10 : 10 ≤ w ∧ w ≤ 21 := by omega
                  refine jw_aload_n (pc := 119) C dX5_about_119 1 rfl ?_
                  refine jw_iload_n (pc := 120) C dX5_about_120 2 rfl ?_
                  refine jw_aload_n (pc := 121) C dX5_about_121 0 rfl ?_
                  refine jw_iload_n (pc := 122) C dX5_about_122 3 rfl ?_
                  refine jw_bipush (pc := 123) C dX5_about_123 (by decide +kernel) ?_
                  refine jw_isub (pc := 125) (z := (w - 10)) C dX5_about_125 rfl ?_
                  refine jw_top (y := jI (((w - 10).toNat : Nat) : Int)) (congrArg jI (by omega)) ?_
                  refine jw_callRV (pc := 126) C [.int (jI ((kz : Nat) : Int)), .ref no, .int (jI ((((w - 10).toNat) : Nat) : Int))] [] 3 (con_X5_mannersAt lau D cI cB g pg ki nh rd a kp ik no su K le s h ch V no qn (sp_sum SH SL n) kz ((w - 10).toNat) (by omega) (by omega) hK hV hR99) gX5_about_X5_mannersAt rfl rfl rfl (by decide +kernel) ⟨Nat.le_of_ble_eq_true rfl, Nat.le_of_ble_eq_true rfl⟩ 0 rfl rfl [0, 1, 2, 3, 7, 8] rfl rfl (Nat.le_of_ble_eq_true rfl) rfl dX5_about_126 ?_
                  have b_126_0 := (sp_mann_b hR99 (by omega) (hV _ (by omega)) : 0 ≤ sp_mann (K kz) (V kz) (sp_sum SH SL n) ((w - 10).toNat) ∧ sp_mann (K kz) (V kz) (sp_sum SH SL n) ((w - 10).toNat) ≤ 20)
                  exact jw_iretW (pc := 129) C E dX5_about_129 ((sp_sum SH SL n)) (congrArg (fun z => some (Value.int (jI z))) (by unfold sp_about sp_house; (try simp only [Int.toNat_natCast]); (repeat' split) <;> first | rfl | omega)) trivial rfl
      · -- 28 f
        refine jw_bipush (pc := 31) C dX5_about_31 (by decide +kernel) ?_
        exact jw_iretW (pc := 33) C E dX5_about_33 ((f0)) (congrArg (fun z => some (Value.int (jI z))) (by unfold sp_about sp_house; (try simp only [Int.toNat_natCast]); (repeat' split) <;> first | rfl | omega)) trivial rfl
  · -- 5 f
    refine jw_bipush (pc := 8) C dX5_about_8 (by decide +kernel) ?_
    exact jw_iretW (pc := 10) C E dX5_about_10 ((f0)) (congrArg (fun z => some (Value.int (jI z))) (by unfold sp_about sp_house; (try simp only [Int.toNat_natCast]); (repeat' split) <;> first | rfl | omega)) trivial rfl
def rmX5_as : Room := { frames := 2, cells := 0, slots := 0, locals := 43 }
set_option maxHeartbeats 4000000 in
set_option maxRecDepth 100000 in
theorem con_X5_as (lau : Launch) (D : va_G) (cI cB : ClassId) (g : Nat) (pg : Nat) (ki : Nat) (nh : Nat) (rd : Int) (a : Nat) (kp : Nat) (ik : Int) (no : Nat) (su : Nat) (K : Nat → Int) (z : Int) (w : Int) (hnh : nh ≤ 5) (hK : ∀ x, x < 5 → 0 ≤ K x ∧ K x ≤ 4) (hz : -2147483648 ≤ z ∧ z < 2147483648) (hw : -2147483648 ≤ w ∧ w < 2147483648) : jMR lau yX5_as wsX5_as rmX5_as D cI cB [.ref g, .int (jI z), .int (jI w)] [oG g pg ki ((nh : Nat) : Int) rd a kp ik no su, aI cI ki 5 K] (.int (jI (sp_as nh K z w))) := by
  refine jMR.of (own := RX5) (cc := cX5_as) (maxL := 5) (ret := (some .int)) rfl (by decide) rfl (Nat.le_of_ble_eq_true rfl) ?_
  intro X C E
  refine jw_lv (lv' := [(0, .ref g), (1, .int (jI z)), (2, .int (jI w))]) [0, 1, 2] rfl ?_
  refine jw_aload_n (pc := 0) C dX5_as_0 0 rfl ?_
  refine jw_iload_n (pc := 1) C dX5_as_1 1 rfl ?_
  refine jw_callRV (pc := 2) C [.int (jI z)] [] 1 (con_X5_isHouse lau D cI cB g pg ki nh rd a kp ik no su z (by omega) (by omega)) gX5_as_X5_isHouse rfl rfl rfl (by decide +kernel) ⟨Nat.le_of_ble_eq_true rfl, Nat.le_of_ble_eq_true rfl⟩ 0 rfl rfl [0] rfl rfl (Nat.le_of_ble_eq_true rfl) rfl dX5_as_2 ?_
  refine jw_ifb_ne (pc := 5) (tgt := 11) C dX5_as_5 (by decide) (fun c_5 => ?_) (fun c_5 => ?_)
  · -- 5 t
    obtain ⟨kz, rfl⟩ : ∃ kz : Nat, z = ((kz : Nat) : Int) := ⟨(z).toNat, by omega⟩
    refine jw_iload_n (pc := 11) C dX5_as_11 2 rfl ?_
    refine jw_iconst (pc := 12) C dX5_as_12 ?_
    refine jw_iconst (pc := 13) C dX5_as_13 ?_
    refine jw_callRS (pc := 14) C [.int (jI w), .int (jI 0), .int (jI 4)] [] 3 (con_X5_isWithin lau D cI cB w 0 4 (by omega) (by omega) (by omega)) gX5_as_X5_isWithin rfl rfl rfl (by decide +kernel) ⟨Nat.le_of_ble_eq_true rfl, Nat.le_of_ble_eq_true rfl⟩ [] rfl rfl (Nat.le_of_ble_eq_true rfl) rfl dX5_as_14 ?_
    refine jw_ifb_ne (pc := 17) (tgt := 23) C dX5_as_17 (by decide) (fun c_17 => ?_) (fun c_17 => ?_)
    · -- 17 t
      refine jw_aload_n (pc := 23) C dX5_as_23 0 rfl ?_
      refine jw_iload_n (pc := 24) C dX5_as_24 1 rfl ?_
      refine jw_callRV (pc := 25) C [.int (jI ((kz : Nat) : Int))] [] 1 (con_X5_kindAt lau D cI cB g pg ki nh rd a kp ik no su K kz (by omega)) gX5_as_X5_kindAt rfl rfl rfl (by decide +kernel) ⟨Nat.le_of_ble_eq_true rfl, Nat.le_of_ble_eq_true rfl⟩ 0 rfl rfl [0, 1] rfl rfl (Nat.le_of_ble_eq_true rfl) rfl dX5_as_25 ?_
      have hkk := hK kz (by omega)
      refine jw_istore_n (pc := 28) (lv' := [(3, .int (jI (K kz))), (0, .ref g), (1, .int (jI ((kz : Nat) : Int))), (2, .int (jI w))]) C dX5_as_28 (by decide) rfl ?_
      have jn_53_1 : ∀ (d : Int), (d = jb (w = 0 ∨ w = K kz ∨ (w = 1 ∧ K kz = 4))) → (0 ≤ d ∧ d ≤ 1) → jW X 53 [(0, .ref g), (1, .int (jI ((kz : Nat) : Int))), (2, .int (jI w)), (3, .int (jI (K kz)))] [.int (jI d)] [oG g pg ki ((nh : Nat) : Int) rd a kp ik no su, aI cI ki 5 K] := by
        intro d hd hd1
        refine jw_istore (pc := 53) (lv' := [(4, .int (jI d)), (0, .ref g), (1, .int (jI ((kz : Nat) : Int))), (2, .int (jI w)), (3, .int (jI (K kz)))]) C dX5_as_53 (by decide) rfl ?_
        refine jw_iload (pc := 55) C dX5_as_55 0 rfl ?_
        refine jw_if_eq (pc := 57) (tgt := 64) C dX5_as_57 (by decide) (by omega) (fun c_57 => ?_) (fun c_57 => ?_)
        · -- 57 t
          have hdd := jb_is0 hd c_57
          refine jw_iconst (pc := 64) C dX5_as_64 ?_
          exact jw_iretR (pc := 65) C E dX5_as_65 (congrArg jI (by unfold sp_as; (try simp only [Int.toNat_natCast]); (repeat' split) <;> first | rfl | omega))
        · -- 57 f
          have hdd := jb_is1 hd c_57
          refine jw_iload_n (pc := 60) C dX5_as_60 2 rfl ?_
          refine jw_goto (pc := 61) (tgt := 65) C dX5_as_61 (by decide) ?_
          exact jw_iretR (pc := 65) C E dX5_as_65 (congrArg jI (by unfold sp_as; (try simp only [Int.toNat_natCast]); (repeat' split) <;> first | rfl | omega))
      refine jw_iload_n (pc := 29) C dX5_as_29 3 rfl ?_
      refine jw_if_eq (pc := 30) (tgt := 48) C dX5_as_30 (by decide) (by omega) (fun c_30 => ?_) (fun c_30 => ?_)
      · -- 30 t
        refine jw_iconst (pc := 48) C dX5_as_48 ?_
        refine jw_goto (pc := 49) (tgt := 53) C dX5_as_49 (by decide) ?_
        refine jw_lv [1, 2, 3, 0] rfl ?_
        exact jn_53_1 1 (by first | exact jb_i1 (by omega) | exact jb_i0 (by omega)) (by omega)
      · -- 30 f
        refine jw_iload_n (pc := 33) C dX5_as_33 3 rfl ?_
        refine jw_iload_n (pc := 34) C dX5_as_34 0 rfl ?_
        refine jw_icmp_eq (pc := 35) (tgt := 48) C dX5_as_35 (by decide) (by omega) (by omega) (fun c_35 => ?_) (fun c_35 => ?_)
        · -- 35 t
          refine jw_iconst (pc := 48) C dX5_as_48 ?_
          refine jw_goto (pc := 49) (tgt := 53) C dX5_as_49 (by decide) ?_
          refine jw_lv [1, 2, 3, 0] rfl ?_
          exact jn_53_1 1 (by first | exact jb_i1 (by omega) | exact jb_i0 (by omega)) (by omega)
        · -- 35 f
          refine jw_iload_n (pc := 38) C dX5_as_38 3 rfl ?_
          refine jw_iconst (pc := 39) C dX5_as_39 ?_
          refine jw_icmp_ne (pc := 40) (tgt := 52) C dX5_as_40 (by decide) (by omega) (by omega) (fun c_40 => ?_) (fun c_40 => ?_)
          · -- 40 t
            refine jw_iconst (pc := 52) C dX5_as_52 ?_
            refine jw_lv [1, 2, 3, 0] rfl ?_
            exact jn_53_1 0 (by first | exact jb_i1 (by omega) | exact jb_i0 (by omega)) (by omega)
          · -- 40 f
            refine jw_iload_n (pc := 43) C dX5_as_43 0 rfl ?_
            refine jw_iconst (pc := 44) C dX5_as_44 ?_
            refine jw_icmp_ne (pc := 45) (tgt := 52) C dX5_as_45 (by decide) (by omega) (by omega) (fun c_45 => ?_) (fun c_45 => ?_)
            · -- 45 t
              refine jw_iconst (pc := 52) C dX5_as_52 ?_
              refine jw_lv [1, 2, 3, 0] rfl ?_
              exact jn_53_1 0 (by first | exact jb_i1 (by omega) | exact jb_i0 (by omega)) (by omega)
            · -- 45 f
              refine jw_iconst (pc := 48) C dX5_as_48 ?_
              refine jw_goto (pc := 49) (tgt := 53) C dX5_as_49 (by decide) ?_
              refine jw_lv [1, 2, 3, 0] rfl ?_
              exact jn_53_1 1 (by first | exact jb_i1 (by omega) | exact jb_i0 (by omega)) (by omega)
    · -- 17 f
      refine jw_bipush (pc := 20) C dX5_as_20 (by decide +kernel) ?_
      exact jw_iretR (pc := 22) C E dX5_as_22 (congrArg jI (by unfold sp_as; (try simp only [Int.toNat_natCast]); (repeat' split) <;> first | rfl | omega))
  · -- 5 f
    refine jw_bipush (pc := 8) C dX5_as_8 (by decide +kernel) ?_
    exact jw_iretR (pc := 10) C E dX5_as_10 (congrArg jI (by unfold sp_as; (try simp only [Int.toNat_natCast]); (repeat' split) <;> first | rfl | omega))
theorem fl_X5_raise_23 : Cond.fieldLink RX5 23 "GongTide" "affairs" "LGongTide$Affairs;" ∈ wsX5_raise := by decide +kernel
theorem fl_X5_raise_128 : Cond.fieldLink RX5 128 "GongTide$Affairs" "changes" "I" ∈ wsX5_raise := by decide +kernel
theorem hi_X5_raise_X0 : ∀ w ∈ wsX00, w ∈ wsX5_raise := fun w h => List.mem_cons_of_mem _ (List.mem_append_right _ h)
theorem hi_X5_raise_X5 : ∀ w ∈ wsX50, w ∈ wsX5_raise := fun w h => List.mem_cons_of_mem _ (List.mem_append_left _ (List.mem_append_right _ h))
def rmX5_raise : Room := { frames := 2, cells := 0, slots := 0, locals := 44 }
set_option maxHeartbeats 4000000 in
set_option maxRecDepth 100000 in
theorem con_X5_raise (lau : Launch) (D : va_G) (cI cB : ClassId) (g : Nat) (pg : Nat) (ki : Nat) (nh : Nat) (rd : Int) (a : Nat) (kp : Nat) (ik : Int) (no : Nat) (su : Nat) (le : Nat) (s : Nat) (h : Nat) (ch : Int) (V : Nat → Int) (k : Nat) (v : Int) (hnh : nh ≤ 5) (hk : k < nh) (hv : 0 ≤ v ∧ v ≤ 9) : jMW (S := Unit) lau yX5_raise wsX5_raise rmX5_raise D cI cB [.ref g, .int (jI ((k : Nat) : Int)), .int (jI v)] [oG g pg ki ((nh : Nat) : Int) rd a kp ik no su, oA a le s h ch, aI cI le 5 V] (fun u => some (.int (jI (V k)))) (fun u => True) (fun u => [oG g pg ki ((nh : Nat) : Int) rd a kp ik no su, oA a le s h (ch + 1), aI cI le 5 (va_up V k v)]) := by
  refine jMW.of (own := RX5) (cc := cX5_raise) (maxL := 4) (ret := (some .int)) rfl (by decide) rfl (Nat.le_of_ble_eq_true rfl) ?_
  intro X C E
  refine jw_lv (lv' := [(0, .ref g), (1, .int (jI ((k : Nat) : Int))), (2, .int (jI v))]) [0, 1, 2] rfl ?_
  refine jw_aload_n (pc := 0) C dX5_raise_0 0 rfl ?_
  refine jw_iload_n (pc := 1) C dX5_raise_1 1 rfl ?_
  refine jw_callRV (pc := 2) C [.int (jI ((((k : Nat) : Int))))] [] 1 (con_X5_isHouse lau D cI cB g pg ki nh rd a kp ik no su (((k : Nat) : Int)) (by omega) (by omega)) gX5_raise_X5_isHouse rfl rfl rfl (by decide +kernel) ⟨Nat.le_of_ble_eq_true rfl, Nat.le_of_ble_eq_true rfl⟩ 0 rfl rfl [0] rfl rfl (Nat.le_of_ble_eq_true rfl) rfl dX5_raise_2 ?_
  refine jw_ifb_ne (pc := 5) (tgt := 11) C dX5_raise_5 (by decide) (fun c_5 => ?_) (fun c_5 => ?_)
  · -- 5 t
    refine jw_iload_n (pc := 11) C dX5_raise_11 2 rfl ?_
    refine jw_iconst (pc := 12) C dX5_raise_12 ?_
    refine jw_bipush (pc := 13) C dX5_raise_13 (by decide +kernel) ?_
    refine jw_callRS (pc := 15) C [.int (jI v), .int (jI 0), .int (jI 9)] [] 3 (con_X5_isWithin lau D cI cB v 0 9 (by omega) (by omega) (by omega)) gX5_raise_X5_isWithin rfl rfl rfl (by decide +kernel) ⟨Nat.le_of_ble_eq_true rfl, Nat.le_of_ble_eq_true rfl⟩ [] rfl rfl (Nat.le_of_ble_eq_true rfl) rfl dX5_raise_15 ?_
    refine jw_ifb_ne (pc := 18) (tgt := 24) C dX5_raise_18 (by decide) (fun c_18 => ?_) (fun c_18 => ?_)
    · -- 18 t
      refine jw_aload_n (pc := 24) C dX5_raise_24 0 rfl ?_
      refine jw_get (pc := 25) C hi_X5_raise_X5 0 rfl rfl 4 (by decide) fl_X5_raise_23 rfl rfl dX5_raise_25 ?_
      refine jw_iload_n (pc := 28) C dX5_raise_28 1 rfl ?_
      refine jw_callRV (pc := 29) C [.int (jI ((k : Nat) : Int))] [] 1 (con_X0_level lau D cI cB a le s h ch V k (by omega)) gX5_raise_X0_level rfl rfl rfl (by decide +kernel) ⟨Nat.le_of_ble_eq_true rfl, Nat.le_of_ble_eq_true rfl⟩ 1 rfl rfl [1, 2] rfl rfl (Nat.le_of_ble_eq_true rfl) rfl dX5_raise_29 ?_
      refine jw_istore_n (pc := 32) (lv' := [(3, .int (jI (V k))), (0, .ref g), (1, .int (jI ((k : Nat) : Int))), (2, .int (jI v))]) C dX5_raise_32 (by decide) rfl ?_
      refine jw_aload_n (pc := 33) C dX5_raise_33 1 rfl ?_
      refine jw_get (pc := 34) C hi_X5_raise_X5 0 rfl rfl 4 (by decide) fl_X5_raise_23 rfl rfl dX5_raise_34 ?_
      refine jw_iload_n (pc := 37) C dX5_raise_37 2 rfl ?_
      refine jw_iload_n (pc := 38) C dX5_raise_38 3 rfl ?_
      refine jw_callWV (pc := 39) C [.int (jI ((k : Nat) : Int)), .int (jI v)] [] 2 (con_X0_setLevel lau D cI cB a le s h ch V k v (by omega)) gX5_raise_X0_setLevel rfl rfl rfl (by decide +kernel) ⟨Nat.le_of_ble_eq_true rfl, Nat.le_of_ble_eq_true rfl⟩ 1 rfl rfl [1, 2] [0] [0, 1, 2] (wr := [oG g pg ki ((nh : Nat) : Int) rd a kp ik no su]) rfl rfl (by decide) (by decide) (fun _ => rfl) (wN := fun u_39_1 => [oG g pg ki ((nh : Nat) : Int) rd a kp ik no su, oA a le s h ch, aI cI le 5 (va_up V k v)]) (fun _ => rfl) (stN := fun u_39_1 => []) (fun _ => rfl) rfl (Nat.le_of_ble_eq_true rfl) rfl dX5_raise_39 (fun u_39_1 hu_39_1 => ?_)
      refine jw_aload_n (pc := 42) C dX5_raise_42 1 rfl ?_
      refine jw_get (pc := 43) C hi_X5_raise_X5 0 rfl rfl 4 (by decide) fl_X5_raise_23 rfl rfl dX5_raise_43 ?_
      refine jw_dup (pc := 46) C dX5_raise_46 rfl ?_
      refine jw_get (pc := 47) C hi_X5_raise_X0 1 rfl rfl 3 (by decide) fl_X5_raise_128 rfl rfl dX5_raise_47 ?_
      refine jw_iconst (pc := 50) C dX5_raise_50 ?_
      refine jw_iadd (pc := 51) (z := (ch + 1)) C dX5_raise_51 rfl ?_
      refine jw_put (pc := 52) (ty := .int) (ws' := [oG g pg ki ((nh : Nat) : Int) rd a kp ik no su, oA a le s h (ch + 1), aI cI le 5 (va_up V k v)]) C hi_X5_raise_X0 tyX0 tyX0_ok nmX0 1 rfl rfl 3 (by decide) fl_X5_raise_128 rfl rfl (by decide +kernel) rfl rfl (Nat.le_of_ble_eq_true rfl) rfl dX5_raise_52 ?_
      refine jw_iload_n (pc := 55) C dX5_raise_55 0 rfl ?_
      exact jw_iretW (pc := 56) C E dX5_raise_56 (()) rfl trivial rfl
    · exfalso; omega
  · exfalso; omega
set_option maxHeartbeats 4000000 in
set_option maxRecDepth 100000 in
theorem con_X5_raiseF (lau : Launch) (D : va_G) (cI cB : ClassId) (g : Nat) (pg : Nat) (ki : Nat) (nh : Nat) (rd : Int) (a : Nat) (kp : Nat) (ik : Int) (no : Nat) (su : Nat) (z : Int) (v : Int) (hnh : nh ≤ 5) (hz : -2147483648 ≤ z ∧ z < 2147483648) (hv : -2147483648 ≤ v ∧ v < 2147483648) (hrf : ¬ ((0 ≤ z ∧ z ≤ ((nh : Nat) : Int) - 1) ∧ (0 ≤ v ∧ v ≤ 9))) : jMR lau yX5_raise wsX5_raise rmX5_raise D cI cB [.ref g, .int (jI z), .int (jI v)] [oG g pg ki ((nh : Nat) : Int) rd a kp ik no su] (.int (jI (sp_ref nh z))) := by
  refine jMR.of (own := RX5) (cc := cX5_raise) (maxL := 4) (ret := (some .int)) rfl (by decide) rfl (Nat.le_of_ble_eq_true rfl) ?_
  intro X C E
  refine jw_lv (lv' := [(0, .ref g), (1, .int (jI z)), (2, .int (jI v))]) [0, 1, 2] rfl ?_
  refine jw_aload_n (pc := 0) C dX5_raise_0 0 rfl ?_
  refine jw_iload_n (pc := 1) C dX5_raise_1 1 rfl ?_
  refine jw_callRV (pc := 2) C [.int (jI z)] [] 1 (con_X5_isHouse lau D cI cB g pg ki nh rd a kp ik no su z (by omega) (by omega)) gX5_raise_X5_isHouse rfl rfl rfl (by decide +kernel) ⟨Nat.le_of_ble_eq_true rfl, Nat.le_of_ble_eq_true rfl⟩ 0 rfl rfl [0] rfl rfl (Nat.le_of_ble_eq_true rfl) rfl dX5_raise_2 ?_
  refine jw_ifb_ne (pc := 5) (tgt := 11) C dX5_raise_5 (by decide) (fun c_5 => ?_) (fun c_5 => ?_)
  · -- 5 t
    refine jw_iload_n (pc := 11) C dX5_raise_11 2 rfl ?_
    refine jw_iconst (pc := 12) C dX5_raise_12 ?_
    refine jw_bipush (pc := 13) C dX5_raise_13 (by decide +kernel) ?_
    refine jw_callRS (pc := 15) C [.int (jI v), .int (jI 0), .int (jI 9)] [] 3 (con_X5_isWithin lau D cI cB v 0 9 (by omega) (by omega) (by omega)) gX5_raise_X5_isWithin rfl rfl rfl (by decide +kernel) ⟨Nat.le_of_ble_eq_true rfl, Nat.le_of_ble_eq_true rfl⟩ [] rfl rfl (Nat.le_of_ble_eq_true rfl) rfl dX5_raise_15 ?_
    refine jw_ifb_ne (pc := 18) (tgt := 24) C dX5_raise_18 (by decide) (fun c_18 => ?_) (fun c_18 => ?_)
    · exfalso; omega
    · -- 18 f
      refine jw_bipush (pc := 21) C dX5_raise_21 (by decide +kernel) ?_
      exact jw_iretR (pc := 23) C E dX5_raise_23 (congrArg jI (by unfold sp_ref; (repeat' split) <;> omega))
  · -- 5 f
    refine jw_bipush (pc := 8) C dX5_raise_8 (by decide +kernel) ?_
    exact jw_iretR (pc := 10) C E dX5_raise_10 (congrArg jI (by unfold sp_ref; (repeat' split) <;> omega))
def rmX5_tide : Room := { frames := 4, cells := 0, slots := 0, locals := 86 }
set_option maxHeartbeats 4000000 in
set_option maxRecDepth 100000 in
theorem con_X5_tide (lau : Launch) (D : va_G) (cI cB : ClassId) (g : Nat) (pg : Nat) (ki : Nat) (nh : Nat) (rd : Int) (a : Nat) (kp : Nat) (ik : Int) (no : Nat) (su : Nat) (le : Nat) (s : Nat) (h : Nat) (ch : Int) (hr : Nat) (lo : Nat) (n : Nat) (SH : Nat → Int) (SL : Nat → Int) (qn : Nat) (f0 : Nat → Int) (z : Int) (hnh : nh ≤ 5) (h2 : n ≤ 6) (hS : ∀ x, x < n → 0 ≤ SH x ∧ SH x ≤ 9 ∧ 0 ≤ SL x ∧ SL x ≤ 9) (hz : -2147483648 ≤ z ∧ z < 2147483648) : jMW (S := Nat → Int) lau yX5_tide wsX5_tide rmX5_tide D cI cB [.ref g, .int (jI z)] [oG g pg ki ((nh : Nat) : Int) rd a kp ik no su, oA a le s h ch, oS s hr lo ((n : Nat) : Int), aI cI hr 6 SH, aI cI lo 6 SL, oT no qn, aI cI qn 12 f0] (fun u => some (.int (jI (sp_tide nh (sp_sum SH SL n) z)))) (fun u => True) (fun u => [oG g pg ki ((nh : Nat) : Int) rd a kp ik no su, oA a le s h ch, oS s hr lo ((n : Nat) : Int), aI cI hr 6 SH, aI cI lo 6 SL, oT no qn, aI cI qn 12 u]) := by
  refine jMW.of (own := RX5) (cc := cX5_tide) (maxL := 2) (ret := (some .int)) rfl (by decide) rfl (Nat.le_of_ble_eq_true rfl) ?_
  intro X C E
  refine jw_lv (lv' := [(0, .ref g), (1, .int (jI z))]) [0, 1] rfl ?_
  have hR54 := sp_sum_99 (SH := SH) (SL := SL) (n := n) h2 (fun x hx => (hS x hx).2.2)
  have hR99 := sp_99 hR54
  refine jw_iload_n (pc := 0) C dX5_tide_0 1 rfl ?_
  refine jw_callRS (pc := 1) C [.int (jI z)] [] 1 (con_X5_isHourOfDay lau D cI cB z (by omega)) gX5_tide_X5_isHourOfDay rfl rfl rfl (by decide +kernel) ⟨Nat.le_of_ble_eq_true rfl, Nat.le_of_ble_eq_true rfl⟩ [] rfl rfl (Nat.le_of_ble_eq_true rfl) rfl dX5_tide_1 ?_
  refine jw_ifb_ne (pc := 4) (tgt := 10) C dX5_tide_4 (by decide) (fun c_4 => ?_) (fun c_4 => ?_)
  · -- 4 t
    obtain ⟨kz, rfl⟩ : ∃ kz : Nat, z = ((kz : Nat) : Int) := ⟨(z).toNat, by omega⟩
    refine jw_aload_n (pc := 10) C dX5_tide_10 0 rfl ?_
    refine jw_callRV (pc := 11) C [] [] 0 (con_X5_hasColony lau D cI cB g pg ki nh rd a kp ik no su (by omega)) gX5_tide_X5_hasColony rfl rfl rfl (by decide +kernel) ⟨Nat.le_of_ble_eq_true rfl, Nat.le_of_ble_eq_true rfl⟩ 0 rfl rfl [0] rfl rfl (Nat.le_of_ble_eq_true rfl) rfl dX5_tide_11 ?_
    refine jw_ifb_eq (pc := 14) (tgt := 28) C dX5_tide_14 (by decide) (fun c_14 => ?_) (fun c_14 => ?_)
    · -- 14 t
      refine jw_bipush (pc := 28) C dX5_tide_28 (by decide +kernel) ?_
      exact jw_iretW (pc := 30) C E dX5_tide_30 ((f0)) (congrArg (fun z => some (Value.int (jI z))) (by unfold sp_tide; (try simp only [Int.toNat_natCast]); (repeat' split) <;> first | rfl | omega)) trivial rfl
    · -- 14 f
      refine jw_aload_n (pc := 17) C dX5_tide_17 0 rfl ?_
      refine jw_callWV (pc := 18) C [] [] 0 (con_X5_tideNow lau D cI cB g pg ki nh rd a kp ik no su le s h ch hr lo n SH SL qn f0 (by omega) hS) gX5_tide_X5_tideNow rfl rfl rfl (by decide +kernel) ⟨Nat.le_of_ble_eq_true rfl, Nat.le_of_ble_eq_true rfl⟩ 0 rfl rfl [0, 1, 2, 3, 4, 5, 6] [] [0, 1, 2, 3, 4, 5, 6] (wr := []) rfl rfl (by decide) (by decide) (fun _ => rfl) (wN := fun u_18_1 => [oG g pg ki ((nh : Nat) : Int) rd a kp ik no su, oA a le s h ch, oS s hr lo ((n : Nat) : Int), aI cI hr 6 SH, aI cI lo 6 SL, oT no qn, aI cI qn 12 (sp_sum SH SL n)]) (fun _ => rfl) (stN := fun u_18_1 => [.ref no]) (fun _ => rfl) rfl (Nat.le_of_ble_eq_true rfl) rfl dX5_tide_18 (fun u_18_1 hu_18_1 => ?_)
      refine jw_iload_n (pc := 21) C dX5_tide_21 1 rfl ?_
      refine jw_callRV (pc := 22) C [.int (jI ((((kz : Nat) : Int))))] [] 1 (con_X4_at lau D cI cB no qn (sp_sum SH SL n) (((kz : Nat) : Int)) (by omega) hR99) gX5_tide_X4_at rfl rfl rfl (by decide +kernel) ⟨Nat.le_of_ble_eq_true rfl, Nat.le_of_ble_eq_true rfl⟩ 5 rfl rfl [5, 6] rfl rfl (Nat.le_of_ble_eq_true rfl) rfl dX5_tide_22 ?_
      have b_22_0 := (sp_at_b hR99 (by omega) : 0 ≤ sp_at (sp_sum SH SL n) (((kz : Nat) : Int)) ∧ sp_at (sp_sum SH SL n) (((kz : Nat) : Int)) ≤ 20)
      refine jw_top (y := jI (sp_cap (sp_sum SH SL n kz))) (congrArg jI (sp_at_nat _ kz)) ?_
      refine jw_goto (pc := 25) (tgt := 30) C dX5_tide_25 (by decide) ?_
      exact jw_iretW (pc := 30) C E dX5_tide_30 ((sp_sum SH SL n)) (congrArg (fun z => some (Value.int (jI z))) (by unfold sp_tide; (try simp only [Int.toNat_natCast]); (repeat' split) <;> first | rfl | omega)) trivial rfl
  · -- 4 f
    refine jw_bipush (pc := 7) C dX5_tide_7 (by decide +kernel) ?_
    exact jw_iretW (pc := 9) C E dX5_tide_9 ((f0)) (congrArg (fun z => some (Value.int (jI z))) (by unfold sp_tide; (try simp only [Int.toNat_natCast]); (repeat' split) <;> first | rfl | omega)) trivial rfl
theorem fl_X5_strike_23 : Cond.fieldLink RX5 23 "GongTide" "affairs" "LGongTide$Affairs;" ∈ wsX5_strike := by decide +kernel
theorem fl_X5_strike_86 : Cond.fieldLink RX5 86 "GongTide$Affairs" "strokes" "LGongTide$Strokes;" ∈ wsX5_strike := by decide +kernel
theorem fl_X5_strike_128 : Cond.fieldLink RX5 128 "GongTide$Affairs" "changes" "I" ∈ wsX5_strike := by decide +kernel
theorem hi_X5_strike_X0 : ∀ w ∈ wsX00, w ∈ wsX5_strike := fun w h => List.mem_cons_of_mem _ (List.mem_append_left _ (List.mem_append_right _ h))
theorem hi_X5_strike_X5 : ∀ w ∈ wsX50, w ∈ wsX5_strike := fun w h => List.mem_cons_of_mem _ (List.mem_append_left _ (List.mem_append_left _ (List.mem_append_right _ h)))
def rmX5_strike : Room := { frames := 2, cells := 0, slots := 0, locals := 42 }
set_option maxHeartbeats 4000000 in
set_option maxRecDepth 100000 in
theorem con_X5_strike (lau : Launch) (D : va_G) (cI cB : ClassId) (g : Nat) (pg : Nat) (ki : Nat) (nh : Nat) (rd : Int) (a : Nat) (kp : Nat) (ik : Int) (no : Nat) (su : Nat) (le : Nat) (s : Nat) (h : Nat) (ch : Int) (hr : Nat) (lo : Nat) (n : Nat) (SH : Nat → Int) (SL : Nat → Int) (x : Int) (l : Int) (hnh : nh ≤ 5) (hn0 : 0 < nh) (hx : 0 ≤ x ∧ x ≤ 9) (hl : 1 ≤ l ∧ l ≤ 9) (hn6 : n < 6) : jMW (S := Unit) lau yX5_strike wsX5_strike rmX5_strike D cI cB [.ref g, .int (jI x), .int (jI l)] [oG g pg ki ((nh : Nat) : Int) rd a kp ik no su, oA a le s h ch, oS s hr lo ((n : Nat) : Int), aI cI hr 6 SH, aI cI lo 6 SL] (fun u => some (.int (jI ((n : Nat) : Int)))) (fun u => True) (fun u => [oG g pg ki ((nh : Nat) : Int) rd a kp ik no su, oA a le s h (ch + 1), oS s hr lo ((n + 1 : Nat) : Int), aI cI hr 6 (va_up SH n x), aI cI lo 6 (va_up SL n l)]) := by
  refine jMW.of (own := RX5) (cc := cX5_strike) (maxL := 3) (ret := (some .int)) rfl (by decide) rfl (Nat.le_of_ble_eq_true rfl) ?_
  intro X C E
  refine jw_lv (lv' := [(0, .ref g), (1, .int (jI x)), (2, .int (jI l))]) [0, 1, 2] rfl ?_
  refine jw_iload_n (pc := 0) C dX5_strike_0 1 rfl ?_
  refine jw_iconst (pc := 1) C dX5_strike_1 ?_
  refine jw_bipush (pc := 2) C dX5_strike_2 (by decide +kernel) ?_
  refine jw_callRS (pc := 4) C [.int (jI x), .int (jI 0), .int (jI 9)] [] 3 (con_X5_isWithin lau D cI cB x 0 9 (by omega) (by omega) (by omega)) gX5_strike_X5_isWithin rfl rfl rfl (by decide +kernel) ⟨Nat.le_of_ble_eq_true rfl, Nat.le_of_ble_eq_true rfl⟩ [] rfl rfl (Nat.le_of_ble_eq_true rfl) rfl dX5_strike_4 ?_
  refine jw_ifb_eq (pc := 7) (tgt := 17) C dX5_strike_7 (by decide) (fun c_7 => ?_) (fun c_7 => ?_)
  · exfalso; omega
  · -- 7 f
    refine jw_iload_n (pc := 10) C dX5_strike_10 2 rfl ?_
    refine jw_callRS (pc := 11) C [.int (jI l)] [] 1 (con_X5_isHeardLoud lau D cI cB l (by omega)) gX5_strike_X5_isHeardLoud rfl rfl rfl (by decide +kernel) ⟨Nat.le_of_ble_eq_true rfl, Nat.le_of_ble_eq_true rfl⟩ [] rfl rfl (Nat.le_of_ble_eq_true rfl) rfl dX5_strike_11 ?_
    refine jw_ifb_ne (pc := 14) (tgt := 20) C dX5_strike_14 (by decide) (fun c_14 => ?_) (fun c_14 => ?_)
    · -- 14 t
      refine jw_aload_n (pc := 20) C dX5_strike_20 0 rfl ?_
      refine jw_callRV (pc := 21) C [] [] 0 (con_X5_hasColony lau D cI cB g pg ki nh rd a kp ik no su (by omega)) gX5_strike_X5_hasColony rfl rfl rfl (by decide +kernel) ⟨Nat.le_of_ble_eq_true rfl, Nat.le_of_ble_eq_true rfl⟩ 0 rfl rfl [0] rfl rfl (Nat.le_of_ble_eq_true rfl) rfl dX5_strike_21 ?_
      refine jw_ifb_ne (pc := 24) (tgt := 30) C dX5_strike_24 (by decide) (fun c_24 => ?_) (fun c_24 => ?_)
      · -- 24 t
        refine jw_aload_n (pc := 30) C dX5_strike_30 0 rfl ?_
        refine jw_get (pc := 31) C hi_X5_strike_X5 0 rfl rfl 4 (by decide) fl_X5_strike_23 rfl rfl dX5_strike_31 ?_
        refine jw_get (pc := 34) C hi_X5_strike_X0 1 rfl rfl 1 (by decide) fl_X5_strike_86 rfl rfl dX5_strike_34 ?_
        refine jw_iload_n (pc := 37) C dX5_strike_37 1 rfl ?_
        refine jw_iload_n (pc := 38) C dX5_strike_38 2 rfl ?_
        refine jw_callWV (pc := 39) C [.int (jI x), .int (jI l)] [] 2 (con_X3_add lau D cI cB s hr lo n SH SL x l (by omega)) gX5_strike_X3_add rfl rfl rfl (by decide +kernel) ⟨Nat.le_of_ble_eq_true rfl, Nat.le_of_ble_eq_true rfl⟩ 2 rfl rfl [2, 3, 4] [0, 1] [0, 1, 2, 3, 4] (wr := [oG g pg ki ((nh : Nat) : Int) rd a kp ik no su, oA a le s h ch]) rfl rfl (by decide) (by decide) (fun _ => rfl) (wN := fun u_39_1 => [oG g pg ki ((nh : Nat) : Int) rd a kp ik no su, oA a le s h ch, oS s hr lo ((n + 1 : Nat) : Int), aI cI hr 6 (va_up SH n x), aI cI lo 6 (va_up SL n l)]) (fun _ => rfl) (stN := fun u_39_1 => [.int (jI 1)]) (fun _ => rfl) rfl (Nat.le_of_ble_eq_true rfl) rfl dX5_strike_39 (fun u_39_1 hu_39_1 => ?_)
        refine jw_if_ne (pc := 42) (tgt := 48) C dX5_strike_42 (by decide) (by omega) (fun c_42 => ?_) (fun c_42 => (by exfalso; omega))
        refine jw_aload_n (pc := 48) C dX5_strike_48 0 rfl ?_
        refine jw_get (pc := 49) C hi_X5_strike_X5 0 rfl rfl 4 (by decide) fl_X5_strike_23 rfl rfl dX5_strike_49 ?_
        refine jw_dup (pc := 52) C dX5_strike_52 rfl ?_
        refine jw_get (pc := 53) C hi_X5_strike_X0 1 rfl rfl 3 (by decide) fl_X5_strike_128 rfl rfl dX5_strike_53 ?_
        refine jw_iconst (pc := 56) C dX5_strike_56 ?_
        refine jw_iadd (pc := 57) (z := (ch + 1)) C dX5_strike_57 rfl ?_
        refine jw_put (pc := 58) (ty := .int) (ws' := [oG g pg ki ((nh : Nat) : Int) rd a kp ik no su, oA a le s h (ch + 1), oS s hr lo ((n + 1 : Nat) : Int), aI cI hr 6 (va_up SH n x), aI cI lo 6 (va_up SL n l)]) C hi_X5_strike_X0 tyX0 tyX0_ok nmX0 1 rfl rfl 3 (by decide) fl_X5_strike_128 rfl rfl (by decide +kernel) rfl rfl (Nat.le_of_ble_eq_true rfl) rfl dX5_strike_58 ?_
        refine jw_aload_n (pc := 61) C dX5_strike_61 0 rfl ?_
        refine jw_get (pc := 62) C hi_X5_strike_X5 0 rfl rfl 4 (by decide) fl_X5_strike_23 rfl rfl dX5_strike_62 ?_
        refine jw_get (pc := 65) C hi_X5_strike_X0 1 rfl rfl 1 (by decide) fl_X5_strike_86 rfl rfl dX5_strike_65 ?_
        refine jw_callRV (pc := 68) C [] [] 0 (con_X3_size lau D cI cB s hr lo (n + 1) ) gX5_strike_X3_size rfl rfl rfl (by decide +kernel) ⟨Nat.le_of_ble_eq_true rfl, Nat.le_of_ble_eq_true rfl⟩ 2 rfl rfl [2] rfl rfl (Nat.le_of_ble_eq_true rfl) rfl dX5_strike_68 ?_
        refine jw_iconst (pc := 71) C dX5_strike_71 ?_
        refine jw_isub (pc := 72) (z := ((n : Nat) : Int)) C dX5_strike_72 (by omega) ?_
        exact jw_iretW (pc := 73) C E dX5_strike_73 (()) rfl trivial rfl
      · exfalso; omega
    · exfalso; omega
set_option maxHeartbeats 4000000 in
set_option maxRecDepth 100000 in
theorem con_X5_strikeF (lau : Launch) (D : va_G) (cI cB : ClassId) (g : Nat) (pg : Nat) (ki : Nat) (nh : Nat) (rd : Int) (a : Nat) (kp : Nat) (ik : Int) (no : Nat) (su : Nat) (le : Nat) (s : Nat) (h : Nat) (ch : Int) (hr : Nat) (lo : Nat) (n : Nat) (SH : Nat → Int) (SL : Nat → Int) (x : Int) (l : Int) (hnh : nh ≤ 5) (h2 : n ≤ 6) (hx : -2147483648 ≤ x ∧ x < 2147483648) (hl : -2147483648 ≤ l ∧ l < 2147483648) (hrf : ¬ ((0 ≤ x ∧ x ≤ 9) ∧ (1 ≤ l ∧ l ≤ 9)) ∨ nh = 0 ∨ n = 6) : jMW (S := Unit) lau yX5_strike wsX5_strike rmX5_strike D cI cB [.ref g, .int (jI x), .int (jI l)] [oG g pg ki ((nh : Nat) : Int) rd a kp ik no su, oA a le s h ch, oS s hr lo ((n : Nat) : Int), aI cI hr 6 SH, aI cI lo 6 SL] (fun u => some (.int (jI (sp_strF nh x l)))) (fun u => True) (fun u => [oG g pg ki ((nh : Nat) : Int) rd a kp ik no su, oA a le s h ch, oS s hr lo ((n : Nat) : Int), aI cI hr 6 SH, aI cI lo 6 SL]) := by
  refine jMW.of (own := RX5) (cc := cX5_strike) (maxL := 3) (ret := (some .int)) rfl (by decide) rfl (Nat.le_of_ble_eq_true rfl) ?_
  intro X C E
  refine jw_lv (lv' := [(0, .ref g), (1, .int (jI x)), (2, .int (jI l))]) [0, 1, 2] rfl ?_
  refine jw_iload_n (pc := 0) C dX5_strike_0 1 rfl ?_
  refine jw_iconst (pc := 1) C dX5_strike_1 ?_
  refine jw_bipush (pc := 2) C dX5_strike_2 (by decide +kernel) ?_
  refine jw_callRS (pc := 4) C [.int (jI x), .int (jI 0), .int (jI 9)] [] 3 (con_X5_isWithin lau D cI cB x 0 9 (by omega) (by omega) (by omega)) gX5_strike_X5_isWithin rfl rfl rfl (by decide +kernel) ⟨Nat.le_of_ble_eq_true rfl, Nat.le_of_ble_eq_true rfl⟩ [] rfl rfl (Nat.le_of_ble_eq_true rfl) rfl dX5_strike_4 ?_
  refine jw_ifb_eq (pc := 7) (tgt := 17) C dX5_strike_7 (by decide) (fun c_7 => ?_) (fun c_7 => ?_)
  · -- 7 t
    refine jw_bipush (pc := 17) C dX5_strike_17 (by decide +kernel) ?_
    exact jw_iretW (pc := 19) C E dX5_strike_19 (()) (congrArg (fun z => some (Value.int (jI z))) (by unfold sp_strF; (repeat' split) <;> omega)) trivial rfl
  · -- 7 f
    refine jw_iload_n (pc := 10) C dX5_strike_10 2 rfl ?_
    refine jw_callRS (pc := 11) C [.int (jI l)] [] 1 (con_X5_isHeardLoud lau D cI cB l (by omega)) gX5_strike_X5_isHeardLoud rfl rfl rfl (by decide +kernel) ⟨Nat.le_of_ble_eq_true rfl, Nat.le_of_ble_eq_true rfl⟩ [] rfl rfl (Nat.le_of_ble_eq_true rfl) rfl dX5_strike_11 ?_
    refine jw_ifb_ne (pc := 14) (tgt := 20) C dX5_strike_14 (by decide) (fun c_14 => ?_) (fun c_14 => ?_)
    · -- 14 t
      refine jw_aload_n (pc := 20) C dX5_strike_20 0 rfl ?_
      refine jw_callRV (pc := 21) C [] [] 0 (con_X5_hasColony lau D cI cB g pg ki nh rd a kp ik no su (by omega)) gX5_strike_X5_hasColony rfl rfl rfl (by decide +kernel) ⟨Nat.le_of_ble_eq_true rfl, Nat.le_of_ble_eq_true rfl⟩ 0 rfl rfl [0] rfl rfl (Nat.le_of_ble_eq_true rfl) rfl dX5_strike_21 ?_
      refine jw_ifb_ne (pc := 24) (tgt := 30) C dX5_strike_24 (by decide) (fun c_24 => ?_) (fun c_24 => ?_)
      · -- 24 t
        refine jw_aload_n (pc := 30) C dX5_strike_30 0 rfl ?_
        refine jw_get (pc := 31) C hi_X5_strike_X5 0 rfl rfl 4 (by decide) fl_X5_strike_23 rfl rfl dX5_strike_31 ?_
        refine jw_get (pc := 34) C hi_X5_strike_X0 1 rfl rfl 1 (by decide) fl_X5_strike_86 rfl rfl dX5_strike_34 ?_
        refine jw_iload_n (pc := 37) C dX5_strike_37 1 rfl ?_
        refine jw_iload_n (pc := 38) C dX5_strike_38 2 rfl ?_
        refine jw_callWV (pc := 39) C [.int (jI x), .int (jI l)] [] 2 (con_X3_addF lau D cI cB s hr lo n SH SL x l (by omega)) gX5_strike_X3_add rfl rfl rfl (by decide +kernel) ⟨Nat.le_of_ble_eq_true rfl, Nat.le_of_ble_eq_true rfl⟩ 2 rfl rfl [2, 3, 4] [0, 1] [0, 1, 2, 3, 4] (wr := [oG g pg ki ((nh : Nat) : Int) rd a kp ik no su, oA a le s h ch]) rfl rfl (by decide) (by decide) (fun _ => rfl) (wN := fun u_39_1 => [oG g pg ki ((nh : Nat) : Int) rd a kp ik no su, oA a le s h ch, oS s hr lo ((n : Nat) : Int), aI cI hr 6 SH, aI cI lo 6 SL]) (fun _ => rfl) (stN := fun u_39_1 => [.int (jI 0)]) (fun _ => rfl) rfl (Nat.le_of_ble_eq_true rfl) rfl dX5_strike_39 (fun u_39_1 hu_39_1 => ?_)
        refine jw_if_ne (pc := 42) (tgt := 48) C dX5_strike_42 (by decide) (by omega) (fun c_42 => (by exfalso; omega)) (fun c_42 => ?_)
        refine jw_bipush (pc := 45) C dX5_strike_45 (by decide +kernel) ?_
        exact jw_iretW (pc := 47) C E dX5_strike_47 (()) (congrArg (fun z => some (Value.int (jI z))) (by unfold sp_strF; (repeat' split) <;> omega)) trivial rfl
      · -- 24 f
        refine jw_bipush (pc := 27) C dX5_strike_27 (by decide +kernel) ?_
        exact jw_iretW (pc := 29) C E dX5_strike_29 (()) (congrArg (fun z => some (Value.int (jI z))) (by unfold sp_strF; (repeat' split) <;> omega)) trivial rfl
    · -- 14 f
      refine jw_bipush (pc := 17) C dX5_strike_17 (by decide +kernel) ?_
      exact jw_iretW (pc := 19) C E dX5_strike_19 (()) (congrArg (fun z => some (Value.int (jI z))) (by unfold sp_strF; (repeat' split) <;> omega)) trivial rfl
theorem fl_X5_felt_23 : Cond.fieldLink RX5 23 "GongTide" "affairs" "LGongTide$Affairs;" ∈ wsX5_felt := by decide +kernel
theorem fl_X5_felt_86 : Cond.fieldLink RX5 86 "GongTide$Affairs" "strokes" "LGongTide$Strokes;" ∈ wsX5_felt := by decide +kernel
theorem fl_X5_felt_128 : Cond.fieldLink RX5 128 "GongTide$Affairs" "changes" "I" ∈ wsX5_felt := by decide +kernel
theorem hi_X5_felt_X0 : ∀ w ∈ wsX00, w ∈ wsX5_felt := fun w h => List.mem_cons_of_mem _ (List.mem_append_left _ (List.mem_append_right _ h))
theorem hi_X5_felt_X5 : ∀ w ∈ wsX50, w ∈ wsX5_felt := fun w h => List.mem_cons_of_mem _ (List.mem_append_left _ (List.mem_append_left _ (List.mem_append_right _ h)))
def rmX5_felt : Room := { frames := 3, cells := 0, slots := 0, locals := 65 }
set_option maxHeartbeats 4000000 in
set_option maxRecDepth 100000 in
theorem con_X5_felt (lau : Launch) (D : va_G) (cI cB : ClassId) (g : Nat) (pg : Nat) (ki : Nat) (nh : Nat) (rd : Int) (a : Nat) (kp : Nat) (ik : Int) (no : Nat) (su : Nat) (le : Nat) (s : Nat) (h : Nat) (ch : Int) (hr : Nat) (lo : Nat) (n : Nat) (SH : Nat → Int) (SL : Nat → Int) (k : Nat) (l : Int) (h2 : n ≤ 6) (hk : k < n) (hl : 0 ≤ l ∧ l ≤ 9) : jMW (S := Unit) lau yX5_felt wsX5_felt rmX5_felt D cI cB [.ref g, .int (jI ((k : Nat) : Int)), .int (jI l)] [oG g pg ki ((nh : Nat) : Int) rd a kp ik no su, oA a le s h ch, oS s hr lo ((n : Nat) : Int), aI cI hr 6 SH, aI cI lo 6 SL] (fun u => some (.int (jI (SL k)))) (fun u => True) (fun u => [oG g pg ki ((nh : Nat) : Int) rd a kp ik no su, oA a le s h (ch + 1), oS s hr lo ((n : Nat) : Int), aI cI hr 6 SH, aI cI lo 6 (va_up SL k l)]) := by
  refine jMW.of (own := RX5) (cc := cX5_felt) (maxL := 4) (ret := (some .int)) rfl (by decide) rfl (Nat.le_of_ble_eq_true rfl) ?_
  intro X C E
  refine jw_lv (lv' := [(0, .ref g), (1, .int (jI ((k : Nat) : Int))), (2, .int (jI l))]) [0, 1, 2] rfl ?_
  refine jw_aload_n (pc := 0) C dX5_felt_0 0 rfl ?_
  refine jw_get (pc := 1) C hi_X5_felt_X5 0 rfl rfl 4 (by decide) fl_X5_felt_23 rfl rfl dX5_felt_1 ?_
  refine jw_get (pc := 4) C hi_X5_felt_X0 1 rfl rfl 1 (by decide) fl_X5_felt_86 rfl rfl dX5_felt_4 ?_
  refine jw_iload_n (pc := 7) C dX5_felt_7 1 rfl ?_
  refine jw_callRV (pc := 8) C [.int (jI ((((k : Nat) : Int))))] [] 1 (con_X3_has lau D cI cB s hr lo n (((k : Nat) : Int)) (by omega) (by omega)) gX5_felt_X3_has rfl rfl rfl (by decide +kernel) ⟨Nat.le_of_ble_eq_true rfl, Nat.le_of_ble_eq_true rfl⟩ 2 rfl rfl [2] rfl rfl (Nat.le_of_ble_eq_true rfl) rfl dX5_felt_8 ?_
  refine jw_ifb_ne (pc := 11) (tgt := 17) C dX5_felt_11 (by decide) (fun c_11 => ?_) (fun c_11 => ?_)
  · -- 11 t
    refine jw_iload_n (pc := 17) C dX5_felt_17 2 rfl ?_
    refine jw_iconst (pc := 18) C dX5_felt_18 ?_
    refine jw_bipush (pc := 19) C dX5_felt_19 (by decide +kernel) ?_
    refine jw_callRS (pc := 21) C [.int (jI l), .int (jI 0), .int (jI 9)] [] 3 (con_X5_isWithin lau D cI cB l 0 9 (by omega) (by omega) (by omega)) gX5_felt_X5_isWithin rfl rfl rfl (by decide +kernel) ⟨Nat.le_of_ble_eq_true rfl, Nat.le_of_ble_eq_true rfl⟩ [] rfl rfl (Nat.le_of_ble_eq_true rfl) rfl dX5_felt_21 ?_
    refine jw_ifb_ne (pc := 24) (tgt := 30) C dX5_felt_24 (by decide) (fun c_24 => ?_) (fun c_24 => ?_)
    · -- 24 t
      refine jw_aload_n (pc := 30) C dX5_felt_30 0 rfl ?_
      refine jw_get (pc := 31) C hi_X5_felt_X5 0 rfl rfl 4 (by decide) fl_X5_felt_23 rfl rfl dX5_felt_31 ?_
      refine jw_get (pc := 34) C hi_X5_felt_X0 1 rfl rfl 1 (by decide) fl_X5_felt_86 rfl rfl dX5_felt_34 ?_
      refine jw_iload_n (pc := 37) C dX5_felt_37 1 rfl ?_
      refine jw_callRV (pc := 38) C [.int (jI ((k : Nat) : Int))] [] 1 (con_X3_loud lau D cI cB s hr lo n SH SL k (by omega) (by omega)) gX5_felt_X3_loud rfl rfl rfl (by decide +kernel) ⟨Nat.le_of_ble_eq_true rfl, Nat.le_of_ble_eq_true rfl⟩ 2 rfl rfl [2, 3, 4] rfl rfl (Nat.le_of_ble_eq_true rfl) rfl dX5_felt_38 ?_
      refine jw_istore_n (pc := 41) (lv' := [(3, .int (jI (SL k))), (0, .ref g), (1, .int (jI ((k : Nat) : Int))), (2, .int (jI l))]) C dX5_felt_41 (by decide) rfl ?_
      refine jw_aload_n (pc := 42) C dX5_felt_42 1 rfl ?_
      refine jw_get (pc := 43) C hi_X5_felt_X5 0 rfl rfl 4 (by decide) fl_X5_felt_23 rfl rfl dX5_felt_43 ?_
      refine jw_get (pc := 46) C hi_X5_felt_X0 1 rfl rfl 1 (by decide) fl_X5_felt_86 rfl rfl dX5_felt_46 ?_
      refine jw_iload_n (pc := 49) C dX5_felt_49 2 rfl ?_
      refine jw_iload_n (pc := 50) C dX5_felt_50 3 rfl ?_
      refine jw_callWV (pc := 51) C [.int (jI ((k : Nat) : Int)), .int (jI l)] [] 2 (con_X3_setLoud lau D cI cB s hr lo n SH SL k l (by omega) (by omega)) gX5_felt_X3_setLoud rfl rfl rfl (by decide +kernel) ⟨Nat.le_of_ble_eq_true rfl, Nat.le_of_ble_eq_true rfl⟩ 2 rfl rfl [2, 3, 4] [0, 1] [0, 1, 2, 3, 4] (wr := [oG g pg ki ((nh : Nat) : Int) rd a kp ik no su, oA a le s h ch]) rfl rfl (by decide) (by decide) (fun _ => rfl) (wN := fun u_51_1 => [oG g pg ki ((nh : Nat) : Int) rd a kp ik no su, oA a le s h ch, oS s hr lo ((n : Nat) : Int), aI cI hr 6 SH, aI cI lo 6 (va_up SL k l)]) (fun _ => rfl) (stN := fun u_51_1 => []) (fun _ => rfl) rfl (Nat.le_of_ble_eq_true rfl) rfl dX5_felt_51 (fun u_51_1 hu_51_1 => ?_)
      refine jw_aload_n (pc := 54) C dX5_felt_54 1 rfl ?_
      refine jw_get (pc := 55) C hi_X5_felt_X5 0 rfl rfl 4 (by decide) fl_X5_felt_23 rfl rfl dX5_felt_55 ?_
      refine jw_dup (pc := 58) C dX5_felt_58 rfl ?_
      refine jw_get (pc := 59) C hi_X5_felt_X0 1 rfl rfl 3 (by decide) fl_X5_felt_128 rfl rfl dX5_felt_59 ?_
      refine jw_iconst (pc := 62) C dX5_felt_62 ?_
      refine jw_iadd (pc := 63) (z := (ch + 1)) C dX5_felt_63 rfl ?_
      refine jw_put (pc := 64) (ty := .int) (ws' := [oG g pg ki ((nh : Nat) : Int) rd a kp ik no su, oA a le s h (ch + 1), oS s hr lo ((n : Nat) : Int), aI cI hr 6 SH, aI cI lo 6 (va_up SL k l)]) C hi_X5_felt_X0 tyX0 tyX0_ok nmX0 1 rfl rfl 3 (by decide) fl_X5_felt_128 rfl rfl (by decide +kernel) rfl rfl (Nat.le_of_ble_eq_true rfl) rfl dX5_felt_64 ?_
      refine jw_iload_n (pc := 67) C dX5_felt_67 0 rfl ?_
      exact jw_iretW (pc := 68) C E dX5_felt_68 (()) rfl trivial rfl
    · exfalso; omega
  · exfalso; omega
set_option maxHeartbeats 4000000 in
set_option maxRecDepth 100000 in
theorem con_X5_feltF (lau : Launch) (D : va_G) (cI cB : ClassId) (g : Nat) (pg : Nat) (ki : Nat) (nh : Nat) (rd : Int) (a : Nat) (kp : Nat) (ik : Int) (no : Nat) (su : Nat) (le : Nat) (s : Nat) (h : Nat) (ch : Int) (hr : Nat) (lo : Nat) (n : Nat) (SH : Nat → Int) (SL : Nat → Int) (z : Int) (l : Int) (h2 : n ≤ 6) (hz : -2147483648 ≤ z ∧ z < 2147483648) (hl : -2147483648 ≤ l ∧ l < 2147483648) (hrf : ¬ ((0 ≤ z ∧ z ≤ ((n : Nat) : Int) - 1) ∧ (0 ≤ l ∧ l ≤ 9))) : jMR lau yX5_felt wsX5_felt rmX5_felt D cI cB [.ref g, .int (jI z), .int (jI l)] [oG g pg ki ((nh : Nat) : Int) rd a kp ik no su, oA a le s h ch, oS s hr lo ((n : Nat) : Int), aI cI hr 6 SH, aI cI lo 6 SL] (.int (jI (sp_ref n z))) := by
  refine jMR.of (own := RX5) (cc := cX5_felt) (maxL := 4) (ret := (some .int)) rfl (by decide) rfl (Nat.le_of_ble_eq_true rfl) ?_
  intro X C E
  refine jw_lv (lv' := [(0, .ref g), (1, .int (jI z)), (2, .int (jI l))]) [0, 1, 2] rfl ?_
  refine jw_aload_n (pc := 0) C dX5_felt_0 0 rfl ?_
  refine jw_get (pc := 1) C hi_X5_felt_X5 0 rfl rfl 4 (by decide) fl_X5_felt_23 rfl rfl dX5_felt_1 ?_
  refine jw_get (pc := 4) C hi_X5_felt_X0 1 rfl rfl 1 (by decide) fl_X5_felt_86 rfl rfl dX5_felt_4 ?_
  refine jw_iload_n (pc := 7) C dX5_felt_7 1 rfl ?_
  refine jw_callRV (pc := 8) C [.int (jI z)] [] 1 (con_X3_has lau D cI cB s hr lo n z (by omega) (by omega)) gX5_felt_X3_has rfl rfl rfl (by decide +kernel) ⟨Nat.le_of_ble_eq_true rfl, Nat.le_of_ble_eq_true rfl⟩ 2 rfl rfl [2] rfl rfl (Nat.le_of_ble_eq_true rfl) rfl dX5_felt_8 ?_
  refine jw_ifb_ne (pc := 11) (tgt := 17) C dX5_felt_11 (by decide) (fun c_11 => ?_) (fun c_11 => ?_)
  · -- 11 t
    refine jw_iload_n (pc := 17) C dX5_felt_17 2 rfl ?_
    refine jw_iconst (pc := 18) C dX5_felt_18 ?_
    refine jw_bipush (pc := 19) C dX5_felt_19 (by decide +kernel) ?_
    refine jw_callRS (pc := 21) C [.int (jI l), .int (jI 0), .int (jI 9)] [] 3 (con_X5_isWithin lau D cI cB l 0 9 (by omega) (by omega) (by omega)) gX5_felt_X5_isWithin rfl rfl rfl (by decide +kernel) ⟨Nat.le_of_ble_eq_true rfl, Nat.le_of_ble_eq_true rfl⟩ [] rfl rfl (Nat.le_of_ble_eq_true rfl) rfl dX5_felt_21 ?_
    refine jw_ifb_ne (pc := 24) (tgt := 30) C dX5_felt_24 (by decide) (fun c_24 => ?_) (fun c_24 => ?_)
    · exfalso; omega
    · -- 24 f
      refine jw_bipush (pc := 27) C dX5_felt_27 (by decide +kernel) ?_
      exact jw_iretR (pc := 29) C E dX5_felt_29 (congrArg jI (by unfold sp_ref; (repeat' split) <;> omega))
  · -- 11 f
    refine jw_bipush (pc := 14) C dX5_felt_14 (by decide +kernel) ?_
    exact jw_iretR (pc := 16) C E dX5_felt_16 (congrArg jI (by unfold sp_ref; (repeat' split) <;> omega))
theorem fl_X5_stroke_23 : Cond.fieldLink RX5 23 "GongTide" "affairs" "LGongTide$Affairs;" ∈ wsX5_stroke := by decide +kernel
theorem fl_X5_stroke_86 : Cond.fieldLink RX5 86 "GongTide$Affairs" "strokes" "LGongTide$Strokes;" ∈ wsX5_stroke := by decide +kernel
theorem hi_X5_stroke_X0 : ∀ w ∈ wsX00, w ∈ wsX5_stroke := fun w h => List.mem_cons_of_mem _ (List.mem_append_left _ (List.mem_append_right _ h))
theorem hi_X5_stroke_X5 : ∀ w ∈ wsX50, w ∈ wsX5_stroke := fun w h => List.mem_cons_of_mem _ (List.mem_append_left _ (List.mem_append_left _ (List.mem_append_right _ h)))
def rmX5_stroke : Room := { frames := 4, cells := 0, slots := 0, locals := 86 }
set_option maxHeartbeats 4000000 in
set_option maxRecDepth 100000 in
theorem con_X5_stroke (lau : Launch) (D : va_G) (cI cB : ClassId) (g : Nat) (pg : Nat) (ki : Nat) (nh : Nat) (rd : Int) (a : Nat) (kp : Nat) (ik : Int) (no : Nat) (su : Nat) (le : Nat) (s : Nat) (h : Nat) (ch : Int) (hr : Nat) (lo : Nat) (n : Nat) (SH : Nat → Int) (SL : Nat → Int) (z : Int) (w : Int) (h2 : n ≤ 6) (hS : ∀ x, x < n → 0 ≤ SH x ∧ SH x ≤ 9 ∧ 0 ≤ SL x ∧ SL x ≤ 9) (hz : -2147483648 ≤ z ∧ z < 2147483648) (hw : -2147483648 ≤ w ∧ w < 2147483648) : jMR lau yX5_stroke wsX5_stroke rmX5_stroke D cI cB [.ref g, .int (jI z), .int (jI w)] [oG g pg ki ((nh : Nat) : Int) rd a kp ik no su, oA a le s h ch, oS s hr lo ((n : Nat) : Int), aI cI hr 6 SH, aI cI lo 6 SL] (.int (jI (sp_stroke n SH SL z w))) := by
  refine jMR.of (own := RX5) (cc := cX5_stroke) (maxL := 3) (ret := (some .int)) rfl (by decide) rfl (Nat.le_of_ble_eq_true rfl) ?_
  intro X C E
  refine jw_lv (lv' := [(0, .ref g), (1, .int (jI z)), (2, .int (jI w))]) [0, 1, 2] rfl ?_
  refine jw_aload_n (pc := 0) C dX5_stroke_0 0 rfl ?_
  refine jw_get (pc := 1) C hi_X5_stroke_X5 0 rfl rfl 4 (by decide) fl_X5_stroke_23 rfl rfl dX5_stroke_1 ?_
  refine jw_get (pc := 4) C hi_X5_stroke_X0 1 rfl rfl 1 (by decide) fl_X5_stroke_86 rfl rfl dX5_stroke_4 ?_
  refine jw_iload_n (pc := 7) C dX5_stroke_7 1 rfl ?_
  refine jw_callRV (pc := 8) C [.int (jI z)] [] 1 (con_X3_has lau D cI cB s hr lo n z (by omega) (by omega)) gX5_stroke_X3_has rfl rfl rfl (by decide +kernel) ⟨Nat.le_of_ble_eq_true rfl, Nat.le_of_ble_eq_true rfl⟩ 2 rfl rfl [2] rfl rfl (Nat.le_of_ble_eq_true rfl) rfl dX5_stroke_8 ?_
  refine jw_ifb_ne (pc := 11) (tgt := 17) C dX5_stroke_11 (by decide) (fun c_11 => ?_) (fun c_11 => ?_)
  · -- 11 t
    obtain ⟨kz, rfl⟩ : ∃ kz : Nat, z = ((kz : Nat) : Int) := ⟨(z).toNat, by omega⟩
    refine jw_iload_n (pc := 17) C dX5_stroke_17 2 rfl ?_
    by_cases sw_18_0 : w = 0
    · -- case 0
      refine jw_table (pc := 18) (tgt := 44) C dX5_stroke_18 (by omega) (by omega) (by omega) (by rw [sw_18_0]; rfl) (by decide) ?_
      refine jw_aload_n (pc := 44) C dX5_stroke_44 0 rfl ?_
      refine jw_get (pc := 45) C hi_X5_stroke_X5 0 rfl rfl 4 (by decide) fl_X5_stroke_23 rfl rfl dX5_stroke_45 ?_
      refine jw_get (pc := 48) C hi_X5_stroke_X0 1 rfl rfl 1 (by decide) fl_X5_stroke_86 rfl rfl dX5_stroke_48 ?_
      refine jw_iload_n (pc := 51) C dX5_stroke_51 1 rfl ?_
      refine jw_callRV (pc := 52) C [.int (jI ((kz : Nat) : Int))] [] 1 (con_X3_hour lau D cI cB s hr lo n SH SL kz (by omega) (by omega)) gX5_stroke_X3_hour rfl rfl rfl (by decide +kernel) ⟨Nat.le_of_ble_eq_true rfl, Nat.le_of_ble_eq_true rfl⟩ 2 rfl rfl [2, 3, 4] rfl rfl (Nat.le_of_ble_eq_true rfl) rfl dX5_stroke_52 ?_
      exact jw_iretR (pc := 55) C E dX5_stroke_55 (congrArg jI (by unfold sp_stroke sp_strk; (try simp only [Int.toNat_natCast]); (repeat' split) <;> first | rfl | omega))
    ·
      by_cases sw_18_1 : w = 1
      · -- case 1
        refine jw_table (pc := 18) (tgt := 56) C dX5_stroke_18 (by omega) (by omega) (by omega) (by rw [sw_18_1]; rfl) (by decide) ?_
        refine jw_aload_n (pc := 56) C dX5_stroke_56 0 rfl ?_
        refine jw_get (pc := 57) C hi_X5_stroke_X5 0 rfl rfl 4 (by decide) fl_X5_stroke_23 rfl rfl dX5_stroke_57 ?_
        refine jw_get (pc := 60) C hi_X5_stroke_X0 1 rfl rfl 1 (by decide) fl_X5_stroke_86 rfl rfl dX5_stroke_60 ?_
        refine jw_iload_n (pc := 63) C dX5_stroke_63 1 rfl ?_
        refine jw_callRV (pc := 64) C [.int (jI ((kz : Nat) : Int))] [] 1 (con_X3_loud lau D cI cB s hr lo n SH SL kz (by omega) (by omega)) gX5_stroke_X3_loud rfl rfl rfl (by decide +kernel) ⟨Nat.le_of_ble_eq_true rfl, Nat.le_of_ble_eq_true rfl⟩ 2 rfl rfl [2, 3, 4] rfl rfl (Nat.le_of_ble_eq_true rfl) rfl dX5_stroke_64 ?_
        exact jw_iretR (pc := 67) C E dX5_stroke_67 (congrArg jI (by unfold sp_stroke sp_strk; (try simp only [Int.toNat_natCast]); (repeat' split) <;> first | rfl | omega))
      ·
        by_cases sw_18_2 : w = 2
        · -- case 2
          refine jw_table (pc := 18) (tgt := 68) C dX5_stroke_18 (by omega) (by omega) (by omega) (by rw [sw_18_2]; rfl) (by decide) ?_
          refine jw_aload_n (pc := 68) C dX5_stroke_68 0 rfl ?_
          refine jw_get (pc := 69) C hi_X5_stroke_X5 0 rfl rfl 4 (by decide) fl_X5_stroke_23 rfl rfl dX5_stroke_69 ?_
          refine jw_get (pc := 72) C hi_X5_stroke_X0 1 rfl rfl 1 (by decide) fl_X5_stroke_86 rfl rfl dX5_stroke_72 ?_
          refine jw_iload_n (pc := 75) C dX5_stroke_75 1 rfl ?_
          refine jw_callRV (pc := 76) C [.int (jI ((kz : Nat) : Int))] [] 1 (con_X3_goneAt lau D cI cB s hr lo n SH SL kz (by omega) (by omega) (by have := hS kz (by omega); omega)) gX5_stroke_X3_goneAt rfl rfl rfl (by decide +kernel) ⟨Nat.le_of_ble_eq_true rfl, Nat.le_of_ble_eq_true rfl⟩ 2 rfl rfl [2, 3, 4] rfl rfl (Nat.le_of_ble_eq_true rfl) rfl dX5_stroke_76 ?_
          exact jw_iretR (pc := 79) C E dX5_stroke_79 (congrArg jI (by unfold sp_stroke sp_strk; (try simp only [Int.toNat_natCast]); (repeat' split) <;> first | rfl | omega))
        ·
          refine jw_tableOut (pc := 18) (tgt := 80) C dX5_stroke_18 (by omega) (by omega) (by decide) ?_
          refine jw_bipush (pc := 80) C dX5_stroke_80 (by decide +kernel) ?_
          exact jw_iretR (pc := 82) C E dX5_stroke_82 (congrArg jI (by unfold sp_stroke sp_strk; (try simp only [Int.toNat_natCast]); (repeat' split) <;> first | rfl | omega))
  · -- 11 f
    refine jw_bipush (pc := 14) C dX5_stroke_14 (by decide +kernel) ?_
    exact jw_iretR (pc := 16) C E dX5_stroke_16 (congrArg jI (by unfold sp_stroke sp_strk; (try simp only [Int.toNat_natCast]); (repeat' split) <;> first | rfl | omega))
def rmX5_dinner : Room := { frames := 4, cells := 0, slots := 0, locals := 95 }
set_option maxHeartbeats 4000000 in
set_option maxRecDepth 100000 in
theorem con_X5_dinner (lau : Launch) (D : va_G) (cI cB : ClassId) (g : Nat) (pg : Nat) (ki : Nat) (nh : Nat) (rd : Int) (a : Nat) (kp : Nat) (ik : Int) (no : Nat) (su : Nat) (K : Nat → Int) (le : Nat) (s : Nat) (h : Nat) (ch : Int) (V : Nat → Int) (hr : Nat) (lo : Nat) (n : Nat) (SH : Nat → Int) (SL : Nat → Int) (qn : Nat) (f0 : Nat → Int) (b : Int) (t0 : Int) (hnh : nh ≤ 5) (h2 : n ≤ 6) (hS : ∀ x, x < n → 0 ≤ SH x ∧ SH x ≤ 9 ∧ 0 ≤ SL x ∧ SL x ≤ 9) (hK : ∀ x, x < 5 → 0 ≤ K x ∧ K x ≤ 4) (hV : ∀ x, x < 5 → 0 ≤ V x ∧ V x ≤ 9) (hb : -2147483648 ≤ b ∧ b < 2147483648) (ht : -2147483648 ≤ t0 ∧ t0 < 2147483648) : jMW (S := Nat → Int) lau yX5_dinner wsX5_dinner rmX5_dinner D cI cB [.ref g, .int (jI b), .int (jI t0)] [oG g pg ki ((nh : Nat) : Int) rd a kp ik no su, aI cI ki 5 K, oA a le s h ch, aI cI le 5 V, oS s hr lo ((n : Nat) : Int), aI cI hr 6 SH, aI cI lo 6 SL, oT no qn, aI cI qn 12 f0] (fun u => some (.int (jI (sp_dinner nh K V (sp_sum SH SL n) b t0)))) (fun u => True) (fun u => [oG g pg ki ((nh : Nat) : Int) rd a kp ik no su, aI cI ki 5 K, oA a le s h ch, aI cI le 5 V, oS s hr lo ((n : Nat) : Int), aI cI hr 6 SH, aI cI lo 6 SL, oT no qn, aI cI qn 12 u]) := by
  refine jMW.of (own := RX5) (cc := cX5_dinner) (maxL := 5) (ret := (some .int)) rfl (by decide) rfl (Nat.le_of_ble_eq_true rfl) ?_
  intro X C E
  refine jw_lv (lv' := [(0, .ref g), (1, .int (jI b)), (2, .int (jI t0))]) [0, 1, 2] rfl ?_
  have hR54 := sp_sum_99 (SH := SH) (SL := SL) (n := n) h2 (fun x hx => (hS x hx).2.2)
  have hR99 := sp_99 hR54
  have hp2 := sp_p2 hnh
  have hp1 := sp_p1 nh
  refine jw_iload_n (pc := 0) C dX5_dinner_0 1 rfl ?_
  refine jw_iconst (pc := 1) C dX5_dinner_1 ?_
  refine jw_aload_n (pc := 2) C dX5_dinner_2 0 rfl ?_
  refine jw_callRV (pc := 3) C [] [.int (jI 1), .int (jI b)] 0 (con_X5_allHouses lau D cI cB g pg ki nh rd a kp ik no su (by omega)) gX5_dinner_X5_allHouses rfl rfl rfl (by decide +kernel) ⟨Nat.le_of_ble_eq_true rfl, Nat.le_of_ble_eq_true rfl⟩ 0 rfl rfl [0] rfl rfl (Nat.le_of_ble_eq_true rfl) rfl dX5_dinner_3 ?_
  refine jw_callRS (pc := 6) C [.int (jI b), .int (jI 1), .int (jI (((((2 ^ nh : Nat) : Int) - 1))))] [] 3 (con_X5_isWithin lau D cI cB b 1 ((((2 ^ nh : Nat) : Int) - 1)) (by omega) (by omega) (by omega)) gX5_dinner_X5_isWithin rfl rfl rfl (by decide +kernel) ⟨Nat.le_of_ble_eq_true rfl, Nat.le_of_ble_eq_true rfl⟩ [] rfl rfl (Nat.le_of_ble_eq_true rfl) rfl dX5_dinner_6 ?_
  refine jw_ifb_eq (pc := 9) (tgt := 22) C dX5_dinner_9 (by decide) (fun c_9 => ?_) (fun c_9 => ?_)
  · -- 9 t
    refine jw_bipush (pc := 22) C dX5_dinner_22 (by decide +kernel) ?_
    exact jw_iretW (pc := 24) C E dX5_dinner_24 ((f0)) (congrArg (fun z => some (Value.int (jI z))) (by unfold sp_dinner; rw [if_neg (by omega)])) trivial rfl
  · -- 9 f
    refine jw_iload_n (pc := 12) C dX5_dinner_12 2 rfl ?_
    refine jw_iconst (pc := 13) C dX5_dinner_13 ?_
    refine jw_bipush (pc := 14) C dX5_dinner_14 (by decide +kernel) ?_
    refine jw_callRS (pc := 16) C [.int (jI t0), .int (jI 1), .int (jI 6)] [] 3 (con_X5_isWithin lau D cI cB t0 1 6 (by omega) (by omega) (by omega)) gX5_dinner_X5_isWithin rfl rfl rfl (by decide +kernel) ⟨Nat.le_of_ble_eq_true rfl, Nat.le_of_ble_eq_true rfl⟩ [] rfl rfl (Nat.le_of_ble_eq_true rfl) rfl dX5_dinner_16 ?_
    refine jw_ifb_ne (pc := 19) (tgt := 25) C dX5_dinner_19 (by decide) (fun c_19 => ?_) (fun c_19 => ?_)
    · -- 19 t
      obtain ⟨kb, rfl⟩ : ∃ kb : Nat, b = ((kb : Nat) : Int) := ⟨(b).toNat, by omega⟩
      obtain ⟨kh, rfl⟩ : ∃ kh : Nat, t0 = ((kh : Nat) : Int) := ⟨(t0).toNat, by omega⟩
      refine jw_aload_n (pc := 25) C dX5_dinner_25 0 rfl ?_
      refine jw_callWV (pc := 26) C [] [] 0 (con_X5_tideNow lau D cI cB g pg ki nh rd a kp ik no su le s h ch hr lo n SH SL qn f0 (by omega) hS) gX5_dinner_X5_tideNow rfl rfl rfl (by decide +kernel) ⟨Nat.le_of_ble_eq_true rfl, Nat.le_of_ble_eq_true rfl⟩ 0 rfl rfl [0, 2, 4, 5, 6, 7, 8] [1, 3] [2, 0, 3, 1, 4, 5, 6, 7, 8] (wr := [aI cI ki 5 K, aI cI le 5 V]) rfl rfl (by decide) (by decide) (fun _ => rfl) (wN := fun u_26_1 => [oG g pg ki ((nh : Nat) : Int) rd a kp ik no su, aI cI ki 5 K, oA a le s h ch, aI cI le 5 V, oS s hr lo ((n : Nat) : Int), aI cI hr 6 SH, aI cI lo 6 SL, oT no qn, aI cI qn 12 (sp_sum SH SL n)]) (fun _ => rfl) (stN := fun u_26_1 => [.ref no]) (fun _ => rfl) rfl (Nat.le_of_ble_eq_true rfl) rfl dX5_dinner_26 (fun u_26_1 hu_26_1 => ?_)
      refine jw_astore_n (pc := 29) (lv' := [(3, .ref no), (0, .ref g), (1, .int (jI ((kb : Nat) : Int))), (2, .int (jI ((kh : Nat) : Int)))]) C dX5_dinner_29 (by decide) rfl ?_
      refine jw_iconst (pc := 30) C dX5_dinner_30 ?_
      refine jw_istore (pc := 31) (lv' := [(4, .int (jI 0)), (3, .ref no), (0, .ref g), (1, .int (jI ((kb : Nat) : Int))), (2, .int (jI ((kh : Nat) : Int)))]) C dX5_dinner_31 (by decide) rfl ?_
      have lp_33_2 : ∀ (fu : Nat) (s0 : Nat), (s0 ≤ 13 - kh) → (∀ j, j < s0 → ¬ sp_dnp K V (sp_sum SH SL n) nh kb kh j = true) → 13 - s0 < fu → jW X 33 [(0, .ref g), (1, .int (jI ((kb : Nat) : Int))), (2, .int (jI ((kh : Nat) : Int))), (3, .ref no), (4, .int (jI ((s0 : Nat) : Int)))] [] [oG g pg ki ((nh : Nat) : Int) rd a kp ik no su, aI cI ki 5 K, oA a le s h ch, aI cI le 5 V, oS s hr lo ((n : Nat) : Int), aI cI hr 6 SH, aI cI lo 6 SL, oT no qn, aI cI qn 12 (sp_sum SH SL n)] := by
        intro fu
        induction fu with
        | zero => intro s0 hs0 hno hm; exact absurd hm (Nat.not_lt_zero _)
        | succ fu ih_3 =>
          intro s0 hs0 hno hm
          refine jw_iload (pc := 33) C dX5_dinner_33 4 rfl ?_
          refine jw_iload_n (pc := 35) C dX5_dinner_35 2 rfl ?_
          refine jw_iadd (pc := 36) (z := ((s0 + kh : Nat) : Int)) C dX5_dinner_36 (by omega) ?_
          refine jw_bipush (pc := 37) C dX5_dinner_37 (by decide +kernel) ?_
          refine jw_icmp_gt (pc := 39) (tgt := 66) C dX5_dinner_39 (by decide) (by omega) (by omega) (fun c_39 => ?_) (fun c_39 => ?_)
          · -- 39 t
            refine jw_iconst (pc := 66) C dX5_dinner_66 ?_
            exact jw_iretW (pc := 67) C E dX5_dinner_67 ((sp_sum SH SL n)) (congrArg (fun z => some (Value.int (jI z))) (by unfold sp_dinner; rw [if_pos (by omega)]; simp only [Int.toNat_natCast]; exact (sp_find_none (p := sp_dnp K V (sp_sum SH SL n) nh kb kh) (fun j hj => hno j (by omega))).symm)) trivial rfl
          · -- 39 f
            refine jw_aload_n (pc := 42) C dX5_dinner_42 0 rfl ?_
            refine jw_iload_n (pc := 43) C dX5_dinner_43 1 rfl ?_
            refine jw_aload_n (pc := 44) C dX5_dinner_44 3 rfl ?_
            refine jw_iload (pc := 45) C dX5_dinner_45 4 rfl ?_
            refine jw_iload (pc := 47) C dX5_dinner_47 4 rfl ?_
            refine jw_iload_n (pc := 49) C dX5_dinner_49 2 rfl ?_
            refine jw_iadd (pc := 50) (z := ((s0 + kh : Nat) : Int)) C dX5_dinner_50 (by omega) ?_
            refine jw_callRV (pc := 51) C [.int (jI ((kb : Nat) : Int)), .ref no, .int (jI ((s0 : Nat) : Int)), .int (jI (((s0 + kh) : Nat) : Int))] [] 4 (con_X5_canDine lau D cI cB g pg ki nh rd a kp ik no su K le s h ch V no qn (sp_sum SH SL n) kb s0 (s0 + kh) (by omega) (by omega) (by omega) (by omega) hK hV hR99) gX5_dinner_X5_canDine rfl rfl rfl (by decide +kernel) ⟨Nat.le_of_ble_eq_true rfl, Nat.le_of_ble_eq_true rfl⟩ 0 rfl rfl [0, 1, 2, 3, 7, 8] rfl rfl (Nat.le_of_ble_eq_true rfl) rfl dX5_dinner_51 ?_
            refine jw_ifb_eq (pc := 54) (tgt := 60) C dX5_dinner_54 (by decide) (fun c_54 => ?_) (fun c_54 => ?_)
            · -- 54 t
              refine jw_iinc (pc := 60) (z := ((s0 + 1 : Nat) : Int)) (lv' := [(4, .int (jI ((s0 + 1 : Nat) : Int))), (0, .ref g), (1, .int (jI ((kb : Nat) : Int))), (2, .int (jI ((kh : Nat) : Int))), (3, .ref no)]) C dX5_dinner_60 4 rfl (by omega) (by decide) rfl ?_
              refine jw_goto (pc := 63) (tgt := 33) C dX5_dinner_63 (by decide) ?_
              refine jw_lv [1, 2, 3, 4, 0] rfl ?_
              exact ih_3 (s0 + 1) (by omega) (fun j hj => by
                    by_cases ej : j = s0
                    · subst ej; exact c_54
                    · exact hno j (by omega)) (by omega)
            · -- 54 f
              refine jw_iload (pc := 57) C dX5_dinner_57 4 rfl ?_
              exact jw_iretW (pc := 59) C E dX5_dinner_59 ((sp_sum SH SL n)) (congrArg (fun z => some (Value.int (jI z))) (by unfold sp_dinner; rw [if_pos (by omega)]; simp only [Int.toNat_natCast]; exact (sp_find_at (p := sp_dnp K V (sp_sum SH SL n) nh kb kh) (by omega) c_54 hno).symm)) trivial rfl
      refine jw_lv [2, 3, 4, 1, 0] rfl ?_
      exact lp_33_2 ((13 - 0) + 1) 0 (by omega) (fun j hj => absurd hj (Nat.not_lt_zero _)) (Nat.lt_succ_self _)
    · -- 19 f
      refine jw_bipush (pc := 22) C dX5_dinner_22 (by decide +kernel) ?_
      exact jw_iretW (pc := 24) C E dX5_dinner_24 ((f0)) (congrArg (fun z => some (Value.int (jI z))) (by unfold sp_dinner; rw [if_neg (by omega)])) trivial rfl
