/-! My own rows over the kit's: ints as jI z (z an Int), a picture (locals, stack, cells) in one judgement jW. -/
def jI (z : Int) : Int32 := Int32.ofInt z
theorem jI_add (a b : Int) : jI a + jI b = jI (a + b) := (Int32.ofInt_add a b).symm
theorem jI_sub (a b : Int) : jI a - jI b = jI (a - b) := (Int32.ofInt_sub a b).symm
theorem jI_mul (a b : Int) : jI a * jI b = jI (a * b) := (Int32.ofInt_mul a b).symm
theorem jI_t {z : Int} (h : -2147483648 ≤ z ∧ z < 2147483648) : (jI z).toInt = z := Int32.toInt_ofInt_of_le (by omega) (by omega)
theorem jI_of (x : Int32) : x = jI x.toInt := (Int32.ofInt_toInt x).symm
theorem jI_rg (x : Int32) : -2147483648 ≤ x.toInt ∧ x.toInt < 2147483648 := ⟨by have := Int32.le_toInt x; omega, by have := Int32.toInt_lt x; omega⟩
theorem jI_eq {x y : Int} (hx : -2147483648 ≤ x ∧ x < 2147483648) (hy : -2147483648 ≤ y ∧ y < 2147483648) : jI x = jI y ↔ x = y := by
  rw [← Int32.toInt_inj, jI_t hx, jI_t hy]
theorem jI_lt {x y : Int} (hx : -2147483648 ≤ x ∧ x < 2147483648) (hy : -2147483648 ≤ y ∧ y < 2147483648) : jI x < jI y ↔ x < y := by
  rw [Int32.lt_iff_toInt_lt, jI_t hx, jI_t hy]
theorem jI_le {x y : Int} (hx : -2147483648 ≤ x ∧ x < 2147483648) (hy : -2147483648 ≤ y ∧ y < 2147483648) : jI x ≤ jI y ↔ x ≤ y := by
  rw [Int32.le_iff_toInt_le, jI_t hx, jI_t hy]
theorem jI_0 : jI 0 = 0 := rfl
theorem jI_clamp {z : Int} {k : Nat} (hk : z = (k : Int)) (h : k < 2147483648) : (jI z).toNatClampNeg = k := by
  show (jI z).toInt.toNat = k
  rw [jI_t (by omega)]
  omega
theorem jI_in {z : Int} {k n : Nat} (hk : z = (k : Int)) (h : k < n) (hn : n < 2147483648) : vp_in (jI z) n := by
  refine vp_in_iff.mpr ?_
  rw [jI_t (by omega)]
  omega
/-- a truth value as an int -/
def jb (c : Prop) [Decidable c] : Int := if c then 1 else 0
theorem jb_t {c : Prop} [Decidable c] (h : c) : jb c = 1 := if_pos h
theorem jb_f {c : Prop} [Decidable c] (h : ¬ c) : jb c = 0 := if_neg h
theorem jb_01 (c : Prop) [Decidable c] : 0 ≤ jb c ∧ jb c ≤ 1 := by unfold jb; split <;> omega
theorem jb_n (c : Prop) [Decidable c] : narrow .boolean (.int (jI (jb c))) = .int (jI (jb c)) := by
  unfold jb; split <;> rfl
theorem jb_fit (c : Prop) [Decidable c] : fits .boolean (.int (jI (jb c))) = true := by
  unfold jb; split <;> rfl
/-- what the tables say: the classes, the two array classes, the links between nest mates -/
def jK (D : va_G) (cI cB : ClassId) (U : State) : Prop := va_K D vwCl [(cI, .int), (cB, .byte)] U ∧ va_Nw (.methodLinkNest RX5 9 yX2_init RX5) U ∧ va_Nw (.methodLinkNest RX5 22 yX0_init RX5) U ∧ va_Nw (.methodLinkNest RX0 17 yX3_init RX5) U ∧ va_Nw (.methodLinkNest RX0 24 yX1_init RX5) U ∧ va_Nw (.methodLinkNest RX5 32 yX4_init RX5) U ∧ va_Nw (.methodLinkNest RX2 19 yX5_isWithin RX5) U ∧ va_Nw (.methodLinkNest RX2 41 yX5_kindOf RX5) U ∧ va_Nw (.methodLinkNest RX0 39 yX5_isWithin RX5) U ∧ va_Nw (.methodLinkNest RX3 22 yX5_isWithin RX5) U ∧ va_Nw (.methodLinkNest RX1 28 yX5_isWithin RX5) U
theorem jK.warm {D : va_G} {cI cB : ClassId} {s U : State} (hW : s.WarmedH U.vm) (h : jK D cI cB s) : jK D cI cB U := by
  obtain ⟨h0, h1, h2, h3, h4, h5, h6, h7, h8, h9, h10⟩ := h
  exact ⟨va_K.moved hW.alike h0, va_Nw.warmM hW h1, va_Nw.warmM hW h2, va_Nw.warmM hW h3, va_Nw.warmM hW h4, va_Nw.warmM hW h5, va_Nw.warmM hW h6, va_Nw.warmM hW h7, va_Nw.warmM hW h8, va_Nw.warmM hW h9, va_Nw.warmM hW h10⟩
theorem jK.same {D : va_G} {cI cB : ClassId} {u U : State} (h : u.vm = U.vm) (hK : jK D cI cB u) : jK D cI cB U := by
  obtain ⟨h0, h1, h2, h3, h4, h5, h6, h7, h8, h9, h10⟩ := hK
  exact ⟨va_K.moved (h ▸ Vm.Alike.refl _) h0, va_Nw.same rfl h h1, va_Nw.same rfl h h2, va_Nw.same rfl h h3, va_Nw.same rfl h h4, va_Nw.same rfl h h5, va_Nw.same rfl h h6, va_Nw.same rfl h h7, va_Nw.same rfl h h8, va_Nw.same rfl h h9, va_Nw.same rfl h h10⟩
/-- where a walk stands, in one name -/
abbrev jX : Type := Program × Launch × Env × Room × State × MethodId × Array Value × List Frame × Method × Code × Nat × va_G × (Nat → Prop) × Bool × Nat × Nat × (State → Prop)
def jW (X : jX) (pc : Nat) (lv : List (Nat × Value)) (st : List Value) (ws : va_W) : Prop := match X with
  | (p, l, e, R, s, m, args, below, meth, c, nL, D, A, ro, cells, slots, Q) => ∀ (H : Heap) (locs : List Loc) (ls : Array Slot), va_P D vwCl ws H → (ro = false → va_D A ws ∧ va_S A s.heap H locs) → (ro = true → H = s.heap ∧ locs = []) → lv_has ls nL lv → W p l e R s m args below meth c H locs cells slots Q (F0 m pc ls st)
def jC (X : jX) (l : Launch) (cc : ByteArray) (own : String) (Ts : List Cond) (rm : Room) (nL : Nat) (D : va_G) (cI cB : ClassId) (ro : Bool) : Prop := match X with
  | (p, l', _, R, s, m, args, _, _, c, nL', D', A, ro', cells, slots, _) => l' = l ∧ R = rm ∧ nL' = nL ∧ D' = D ∧ ro' = ro ∧ p.tables.exec = Jvm.exec ∧ c.code = cc ∧ c.maxLocals = nL ∧ s.vm.findClass own = some m.cls ∧ (∀ w ∈ Ts, w.before args s = true) ∧ jK D cI cB s ∧ (∀ q : Nat, s.heap.size ≤ q → A q) ∧ cells ≤ R.cells ∧ slots ≤ R.slots
section JR
variable {X : jX} {l : Launch} {cc : ByteArray} {own : String} {Ts : List Cond} {rm : Room} {nL : Nat} {D : va_G} {cI cB : ClassId} {ro : Bool} {pc : Nat} {lv : List (Nat × Value)} {st : List Value} {ws : va_W}
theorem jw_iconst (C : jC X l cc own Ts rm nL D cI cB ro) {n : Int} (d : decode cc pc = .ok (.iconst n, 1)) (k : jW X (pc + 1) lv (.int (jI n) :: st) ws) : jW X pc lv st ws := by
  obtain ⟨p, l', e, R, s, m, args, below, meth, c, nL', D', A, ro', cells, slots, Q⟩ := X
  intro H locs ls hP h1 h2 hl
  exact lv_iconst C.2.2.2.2.2.1 C.2.2.2.2.2.2.1 d rfl (k H locs ls hP h1 h2 hl)
theorem jw_bipush (C : jC X l cc own Ts rm nL D cI cB ro) {n : Int} (d : decode cc pc = .ok (.bipush n, 2)) (hn : (Int8.ofInt n).toInt32 = jI n) (k : jW X (pc + 2) lv (.int (jI n) :: st) ws) : jW X pc lv st ws := by
  obtain ⟨p, l', e, R, s, m, args, below, meth, c, nL', D', A, ro', cells, slots, Q⟩ := X
  intro H locs ls hP h1 h2 hl
  exact lv_bipush C.2.2.2.2.2.1 C.2.2.2.2.2.2.1 d hn (k H locs ls hP h1 h2 hl)
theorem jw_sipush (C : jC X l cc own Ts rm nL D cI cB ro) {n : Int} (d : decode cc pc = .ok (.sipush n, 3)) (hn : (Int16.ofInt n).toInt32 = jI n) (k : jW X (pc + 3) lv (.int (jI n) :: st) ws) : jW X pc lv st ws := by
  obtain ⟨p, l', e, R, s, m, args, below, meth, c, nL', D', A, ro', cells, slots, Q⟩ := X
  intro H locs ls hP h1 h2 hl
  exact lv_sipush C.2.2.2.2.2.1 C.2.2.2.2.2.2.1 d hn (k H locs ls hP h1 h2 hl)
theorem jw_ldc (C : jC X l cc own Ts rm nL D cI cB ro) {index : Nat} {v : Int32} {z : Int} (d : decode cc pc = .ok (.ldc index, 2)) (hw : Cond.constant own index v ∈ Ts) (hv : v = jI z) (k : jW X (pc + 2) lv (.int (jI z) :: st) ws) : jW X pc lv st ws := by
  obtain ⟨p, l', e, R, s, m, args, below, meth, c, nL', D', A, ro', cells, slots, Q⟩ := X
  intro H locs ls hP h1 h2 hl
  subst hv
  exact lv_ldc C.2.2.2.2.2.1 C.2.2.2.2.2.2.1 C.2.2.2.2.2.2.2.2.1 (C.2.2.2.2.2.2.2.2.2.1 _ hw) d (k H locs ls hP h1 h2 hl)
theorem jw_ldc2 (C : jC X l cc own Ts rm nL D cI cB ro) {index : Nat} {v : Int64} (d : decode cc pc = .ok (.ldc2_w index, 3)) (hw : Cond.constantLong own index v ∈ Ts) (k : jW X (pc + 3) lv (.long v :: st) ws) : jW X pc lv st ws := by
  obtain ⟨p, l', e, R, s, m, args, below, meth, c, nL', D', A, ro', cells, slots, Q⟩ := X
  intro H locs ls hP h1 h2 hl
  exact lv_ldc2 C.2.2.2.2.2.1 C.2.2.2.2.2.2.1 C.2.2.2.2.2.2.2.2.1 (C.2.2.2.2.2.2.2.2.2.1 _ hw) d (k H locs ls hP h1 h2 hl)
theorem jw_iload_n (C : jC X l cc own Ts rm nL D cI cB ro) {k : Fin 4} {x : Int32} (d : decode cc pc = .ok (.iload_n k, 1)) (j : Nat) (hk : lv[j]? = some ((k : Nat), .int x)) (kk : jW X (pc + 1) lv (.int x :: st) ws) : jW X pc lv st ws := by
  obtain ⟨p, l', e, R, s, m, args, below, meth, c, nL', D', A, ro', cells, slots, Q⟩ := X
  intro H locs ls hP h1 h2 hl
  exact lv_iload_n C.2.2.2.2.2.1 C.2.2.2.2.2.2.1 d rfl (lv_at hl j hk) (kk H locs ls hP h1 h2 hl)
theorem jw_iload (C : jC X l cc own Ts rm nL D cI cB ro) {i : Nat} {x : Int32} (d : decode cc pc = .ok (.iload i, 2)) (j : Nat) (hk : lv[j]? = some (i, .int x)) (kk : jW X (pc + 2) lv (.int x :: st) ws) : jW X pc lv st ws := by
  obtain ⟨p, l', e, R, s, m, args, below, meth, c, nL', D', A, ro', cells, slots, Q⟩ := X
  intro H locs ls hP h1 h2 hl
  exact lv_iload C.2.2.2.2.2.1 C.2.2.2.2.2.2.1 d (lv_at hl j hk) (kk H locs ls hP h1 h2 hl)
theorem jw_lload_n (C : jC X l cc own Ts rm nL D cI cB ro) {k : Fin 4} {x : Int64} (d : decode cc pc = .ok (.lload_n k, 1)) (j : Nat) (hk : lv[j]? = some ((k : Nat), .long x)) (kk : jW X (pc + 1) lv (.long x :: st) ws) : jW X pc lv st ws := by
  obtain ⟨p, l', e, R, s, m, args, below, meth, c, nL', D', A, ro', cells, slots, Q⟩ := X
  intro H locs ls hP h1 h2 hl
  exact lv_lload_n C.2.2.2.2.2.1 C.2.2.2.2.2.2.1 d rfl (lv_at hl j hk) (kk H locs ls hP h1 h2 hl)
theorem jw_aload_n (C : jC X l cc own Ts rm nL D cI cB ro) {k : Fin 4} {x : Nat} (d : decode cc pc = .ok (.aload_n k, 1)) (j : Nat) (hk : lv[j]? = some ((k : Nat), .ref x)) (kk : jW X (pc + 1) lv (.ref x :: st) ws) : jW X pc lv st ws := by
  obtain ⟨p, l', e, R, s, m, args, below, meth, c, nL', D', A, ro', cells, slots, Q⟩ := X
  intro H locs ls hP h1 h2 hl
  exact lv_aload_n C.2.2.2.2.2.1 C.2.2.2.2.2.2.1 d rfl (lv_at hl j hk) (kk H locs ls hP h1 h2 hl)
theorem jw_aload (C : jC X l cc own Ts rm nL D cI cB ro) {i : Nat} {x : Nat} (d : decode cc pc = .ok (.aload i, 2)) (j : Nat) (hk : lv[j]? = some (i, .ref x)) (kk : jW X (pc + 2) lv (.ref x :: st) ws) : jW X pc lv st ws := by
  obtain ⟨p, l', e, R, s, m, args, below, meth, c, nL', D', A, ro', cells, slots, Q⟩ := X
  intro H locs ls hP h1 h2 hl
  exact lv_aload C.2.2.2.2.2.1 C.2.2.2.2.2.2.1 d (lv_at hl j hk) (kk H locs ls hP h1 h2 hl)
theorem jw_istore_n (C : jC X l cc own Ts rm nL D cI cB ro) {k : Fin 4} {x : Int32} {lv' : List (Nat × Value)} (d : decode cc pc = .ok (.istore_n k, 1)) (hn : (k : Nat) < nL) (hl' : ((k : Nat), Value.int x) :: lv.filter (fun q => !(q.1 == (k : Nat)) && !(q.1 + 1 == (k : Nat) && q.2.category == 2)) = lv') (kk : jW X (pc + 1) lv' st ws) : jW X pc lv (.int x :: st) ws := by
  obtain ⟨p, l', e, R, s, m, args, below, meth, c, nL', D', A, ro', cells, slots, Q⟩ := X
  intro H locs ls hP h1 h2 hl
  exact lv_istore_n C.2.2.2.2.2.1 C.2.2.2.2.2.2.1 d rfl hl (by rw [C.2.2.1]; exact hn) hl' (fun ls' hl2 => kk H locs ls' hP h1 h2 hl2)
theorem jw_istore (C : jC X l cc own Ts rm nL D cI cB ro) {i : Nat} {x : Int32} {lv' : List (Nat × Value)} (d : decode cc pc = .ok (.istore i, 2)) (hn : i < nL) (hl' : (i, Value.int x) :: lv.filter (fun q => !(q.1 == i) && !(q.1 + 1 == i && q.2.category == 2)) = lv') (kk : jW X (pc + 2) lv' st ws) : jW X pc lv (.int x :: st) ws := by
  obtain ⟨p, l', e, R, s, m, args, below, meth, c, nL', D', A, ro', cells, slots, Q⟩ := X
  intro H locs ls hP h1 h2 hl
  exact lv_istore C.2.2.2.2.2.1 C.2.2.2.2.2.2.1 d hl (by rw [C.2.2.1]; exact hn) hl' (fun ls' hl2 => kk H locs ls' hP h1 h2 hl2)
theorem jw_astore_n (C : jC X l cc own Ts rm nL D cI cB ro) {k : Fin 4} {x : Nat} {lv' : List (Nat × Value)} (d : decode cc pc = .ok (.astore_n k, 1)) (hn : (k : Nat) < nL) (hl' : ((k : Nat), Value.ref x) :: lv.filter (fun q => !(q.1 == (k : Nat)) && !(q.1 + 1 == (k : Nat) && q.2.category == 2)) = lv') (kk : jW X (pc + 1) lv' st ws) : jW X pc lv (.ref x :: st) ws := by
  obtain ⟨p, l', e, R, s, m, args, below, meth, c, nL', D', A, ro', cells, slots, Q⟩ := X
  intro H locs ls hP h1 h2 hl
  exact lv_astore_n C.2.2.2.2.2.1 C.2.2.2.2.2.2.1 d rfl hl (by rw [C.2.2.1]; exact hn) hl' (fun ls' hl2 => kk H locs ls' hP h1 h2 hl2)
theorem jw_astore (C : jC X l cc own Ts rm nL D cI cB ro) {i : Nat} {x : Nat} {lv' : List (Nat × Value)} (d : decode cc pc = .ok (.astore i, 2)) (hn : i < nL) (hl' : (i, Value.ref x) :: lv.filter (fun q => !(q.1 == i) && !(q.1 + 1 == i && q.2.category == 2)) = lv') (kk : jW X (pc + 2) lv' st ws) : jW X pc lv (.ref x :: st) ws := by
  obtain ⟨p, l', e, R, s, m, args, below, meth, c, nL', D', A, ro', cells, slots, Q⟩ := X
  intro H locs ls hP h1 h2 hl
  exact lv_astore C.2.2.2.2.2.1 C.2.2.2.2.2.2.1 d hl (by rw [C.2.2.1]; exact hn) hl' (fun ls' hl2 => kk H locs ls' hP h1 h2 hl2)
theorem jw_lstore_n (C : jC X l cc own Ts rm nL D cI cB ro) {k : Fin 4} {x : Int64} {lv' : List (Nat × Value)} (d : decode cc pc = .ok (.lstore_n k, 1)) (hn : (k : Nat) + 1 < nL) (hl' : ((k : Nat), Value.long x) :: lv.filter (fun q => !(q.1 == (k : Nat)) && (!(q.1 == (k : Nat) + 1) && !(q.1 + 1 == (k : Nat) && q.2.category == 2))) = lv') (kk : jW X (pc + 1) lv' st ws) : jW X pc lv (.long x :: st) ws := by
  obtain ⟨p, l', e, R, s, m, args, below, meth, c, nL', D', A, ro', cells, slots, Q⟩ := X
  intro H locs ls hP h1 h2 hl
  exact lv_lstore_n C.2.2.2.2.2.1 C.2.2.2.2.2.2.1 d rfl hl (by rw [C.2.2.1]; exact hn) hl' (fun ls' hl2 => kk H locs ls' hP h1 h2 hl2)
theorem jw_iinc (C : jC X l cc own Ts rm nL D cI cB ro) {i : Nat} {n x z : Int} {lv' : List (Nat × Value)} (d : decode cc pc = .ok (.iinc i n, 3)) (j : Nat) (hk : lv[j]? = some (i, .int (jI x))) (hz : x + n = z) (hn : i < nL) (hl' : (i, Value.int (jI z)) :: lv.filter (fun q => !(q.1 == i) && !(q.1 + 1 == i && q.2.category == 2)) = lv') (kk : jW X (pc + 3) lv' st ws) : jW X pc lv st ws := by
  obtain ⟨p, l', e, R, s, m, args, below, meth, c, nL', D', A, ro', cells, slots, Q⟩ := X
  intro H locs ls hP h1 h2 hl
  exact lv_iinc C.2.2.2.2.2.1 C.2.2.2.2.2.2.1 d hl hk (by rw [← hz]; exact jI_add x n) (by rw [C.2.2.1]; exact hn) hl' (fun ls' hl2 => kk H locs ls' hP h1 h2 hl2)
theorem jw_iadd (C : jC X l cc own Ts rm nL D cI cB ro) {x y z : Int} (d : decode cc pc = .ok (.iadd, 1)) (hz : x + y = z) (k : jW X (pc + 1) lv (.int (jI z) :: st) ws) : jW X pc lv (.int (jI y) :: .int (jI x) :: st) ws := by
  obtain ⟨p, l', e, R, s, m, args, below, meth, c, nL', D', A, ro', cells, slots, Q⟩ := X
  intro H locs ls hP h1 h2 hl
  exact lv_iadd C.2.2.2.2.2.1 C.2.2.2.2.2.2.1 d (by rw [jI_add, hz]; exact k H locs ls hP h1 h2 hl)
theorem jw_isub (C : jC X l cc own Ts rm nL D cI cB ro) {x y z : Int} (d : decode cc pc = .ok (.isub, 1)) (hz : x - y = z) (k : jW X (pc + 1) lv (.int (jI z) :: st) ws) : jW X pc lv (.int (jI y) :: .int (jI x) :: st) ws := by
  obtain ⟨p, l', e, R, s, m, args, below, meth, c, nL', D', A, ro', cells, slots, Q⟩ := X
  intro H locs ls hP h1 h2 hl
  exact lv_isub C.2.2.2.2.2.1 C.2.2.2.2.2.2.1 d (by rw [jI_sub, hz]; exact k H locs ls hP h1 h2 hl)
theorem jw_imul (C : jC X l cc own Ts rm nL D cI cB ro) {x y z : Int} (d : decode cc pc = .ok (.imul, 1)) (hz : x * y = z) (k : jW X (pc + 1) lv (.int (jI z) :: st) ws) : jW X pc lv (.int (jI y) :: .int (jI x) :: st) ws := by
  obtain ⟨p, l', e, R, s, m, args, below, meth, c, nL', D', A, ro', cells, slots, Q⟩ := X
  intro H locs ls hP h1 h2 hl
  exact lv_imul C.2.2.2.2.2.1 C.2.2.2.2.2.2.1 d (by rw [jI_mul, hz]; exact k H locs ls hP h1 h2 hl)
theorem jw_idiv (C : jC X l cc own Ts rm nL D cI cB ro) {x y : Int} (z : Int32) (d : decode cc pc = .ok (.idiv, 1)) (hne : ¬ jI y = 0) (hz : jI x / jI y = z) (k : jW X (pc + 1) lv (.int z :: st) ws) : jW X pc lv (.int (jI y) :: .int (jI x) :: st) ws := by
  obtain ⟨p, l', e, R, s, m, args, below, meth, c, nL', D', A, ro', cells, slots, Q⟩ := X
  intro H locs ls hP h1 h2 hl
  exact lv_idiv C.2.2.2.2.2.1 C.2.2.2.2.2.2.1 d hne (by rw [hz]; exact k H locs ls hP h1 h2 hl)
theorem jw_irem (C : jC X l cc own Ts rm nL D cI cB ro) {x y : Int} (z : Int32) (d : decode cc pc = .ok (.irem, 1)) (hne : ¬ jI y = 0) (hz : jI x - jI x / jI y * jI y = z) (k : jW X (pc + 1) lv (.int z :: st) ws) : jW X pc lv (.int (jI y) :: .int (jI x) :: st) ws := by
  obtain ⟨p, l', e, R, s, m, args, below, meth, c, nL', D', A, ro', cells, slots, Q⟩ := X
  intro H locs ls hP h1 h2 hl
  exact lv_irem C.2.2.2.2.2.1 C.2.2.2.2.2.2.1 d hne (by rw [hz]; exact k H locs ls hP h1 h2 hl)
theorem jw_ishl (C : jC X l cc own Ts rm nL D cI cB ro) {x y : Int32} (z : Int32) (d : decode cc pc = .ok (.ishl, 1)) (hz : x <<< (y &&& 31) = z) (k : jW X (pc + 1) lv (.int z :: st) ws) : jW X pc lv (.int y :: .int x :: st) ws := by
  obtain ⟨p, l', e, R, s, m, args, below, meth, c, nL', D', A, ro', cells, slots, Q⟩ := X
  intro H locs ls hP h1 h2 hl
  exact lv_ishl C.2.2.2.2.2.1 C.2.2.2.2.2.2.1 d (by rw [hz]; exact k H locs ls hP h1 h2 hl)
theorem jw_ishr (C : jC X l cc own Ts rm nL D cI cB ro) {x y : Int32} (z : Int32) (d : decode cc pc = .ok (.ishr, 1)) (hz : x >>> (y &&& 31) = z) (k : jW X (pc + 1) lv (.int z :: st) ws) : jW X pc lv (.int y :: .int x :: st) ws := by
  obtain ⟨p, l', e, R, s, m, args, below, meth, c, nL', D', A, ro', cells, slots, Q⟩ := X
  intro H locs ls hP h1 h2 hl
  exact lv_ishr C.2.2.2.2.2.1 C.2.2.2.2.2.2.1 d (by rw [hz]; exact k H locs ls hP h1 h2 hl)
theorem jw_iand (C : jC X l cc own Ts rm nL D cI cB ro) {x y : Int32} (z : Int32) (d : decode cc pc = .ok (.iand, 1)) (hz : x &&& y = z) (k : jW X (pc + 1) lv (.int z :: st) ws) : jW X pc lv (.int y :: .int x :: st) ws := by
  obtain ⟨p, l', e, R, s, m, args, below, meth, c, nL', D', A, ro', cells, slots, Q⟩ := X
  intro H locs ls hP h1 h2 hl
  exact lv_iand C.2.2.2.2.2.1 C.2.2.2.2.2.2.1 d (by rw [hz]; exact k H locs ls hP h1 h2 hl)
theorem jw_ior (C : jC X l cc own Ts rm nL D cI cB ro) {x y : Int32} (z : Int32) (d : decode cc pc = .ok (.ior, 1)) (hz : x ||| y = z) (k : jW X (pc + 1) lv (.int z :: st) ws) : jW X pc lv (.int y :: .int x :: st) ws := by
  obtain ⟨p, l', e, R, s, m, args, below, meth, c, nL', D', A, ro', cells, slots, Q⟩ := X
  intro H locs ls hP h1 h2 hl
  exact lv_ior C.2.2.2.2.2.1 C.2.2.2.2.2.2.1 d (by rw [hz]; exact k H locs ls hP h1 h2 hl)
theorem jw_i2l (C : jC X l cc own Ts rm nL D cI cB ro) {x : Int32} (z : Int64) (d : decode cc pc = .ok (.i2l, 1)) (hz : x.toInt64 = z) (k : jW X (pc + 1) lv (.long z :: st) ws) : jW X pc lv (.int x :: st) ws := by
  obtain ⟨p, l', e, R, s, m, args, below, meth, c, nL', D', A, ro', cells, slots, Q⟩ := X
  intro H locs ls hP h1 h2 hl
  exact lv_i2l C.2.2.2.2.2.1 C.2.2.2.2.2.2.1 d hz (k H locs ls hP h1 h2 hl)
theorem jw_l2i (C : jC X l cc own Ts rm nL D cI cB ro) {x : Int64} (z : Int32) (d : decode cc pc = .ok (.l2i, 1)) (hz : x.toInt32 = z) (k : jW X (pc + 1) lv (.int z :: st) ws) : jW X pc lv (.long x :: st) ws := by
  obtain ⟨p, l', e, R, s, m, args, below, meth, c, nL', D', A, ro', cells, slots, Q⟩ := X
  intro H locs ls hP h1 h2 hl
  exact lv_l2i C.2.2.2.2.2.1 C.2.2.2.2.2.2.1 d hz (k H locs ls hP h1 h2 hl)
theorem jw_i2b (C : jC X l cc own Ts rm nL D cI cB ro) {x : Int32} (z : Int32) (d : decode cc pc = .ok (.i2b, 1)) (hz : x.toInt8.toInt32 = z) (k : jW X (pc + 1) lv (.int z :: st) ws) : jW X pc lv (.int x :: st) ws := by
  obtain ⟨p, l', e, R, s, m, args, below, meth, c, nL', D', A, ro', cells, slots, Q⟩ := X
  intro H locs ls hP h1 h2 hl
  exact lv_i2b C.2.2.2.2.2.1 C.2.2.2.2.2.2.1 d hz (k H locs ls hP h1 h2 hl)
theorem jw_ladd (C : jC X l cc own Ts rm nL D cI cB ro) {x y : Int64} (z : Int64) (d : decode cc pc = .ok (.ladd, 1)) (hz : x + y = z) (k : jW X (pc + 1) lv (.long z :: st) ws) : jW X pc lv (.long y :: .long x :: st) ws := by
  obtain ⟨p, l', e, R, s, m, args, below, meth, c, nL', D', A, ro', cells, slots, Q⟩ := X
  intro H locs ls hP h1 h2 hl
  exact lv_ladd C.2.2.2.2.2.1 C.2.2.2.2.2.2.1 d (by rw [hz]; exact k H locs ls hP h1 h2 hl)
theorem jw_lmul (C : jC X l cc own Ts rm nL D cI cB ro) {x y : Int64} (z : Int64) (d : decode cc pc = .ok (.lmul, 1)) (hz : x * y = z) (k : jW X (pc + 1) lv (.long z :: st) ws) : jW X pc lv (.long y :: .long x :: st) ws := by
  obtain ⟨p, l', e, R, s, m, args, below, meth, c, nL', D', A, ro', cells, slots, Q⟩ := X
  intro H locs ls hP h1 h2 hl
  exact lv_lmul C.2.2.2.2.2.1 C.2.2.2.2.2.2.1 d (by rw [hz]; exact k H locs ls hP h1 h2 hl)
theorem jw_land (C : jC X l cc own Ts rm nL D cI cB ro) {x y : Int64} (z : Int64) (d : decode cc pc = .ok (.land, 1)) (hz : x &&& y = z) (k : jW X (pc + 1) lv (.long z :: st) ws) : jW X pc lv (.long y :: .long x :: st) ws := by
  obtain ⟨p, l', e, R, s, m, args, below, meth, c, nL', D', A, ro', cells, slots, Q⟩ := X
  intro H locs ls hP h1 h2 hl
  exact lv_land C.2.2.2.2.2.1 C.2.2.2.2.2.2.1 d (by rw [hz]; exact k H locs ls hP h1 h2 hl)
theorem jw_ldiv (C : jC X l cc own Ts rm nL D cI cB ro) {x y : Int64} (z : Int64) (d : decode cc pc = .ok (.ldiv, 1)) (hne : ¬ y = 0) (hz : x / y = z) (k : jW X (pc + 1) lv (.long z :: st) ws) : jW X pc lv (.long y :: .long x :: st) ws := by
  obtain ⟨p, l', e, R, s, m, args, below, meth, c, nL', D', A, ro', cells, slots, Q⟩ := X
  intro H locs ls hP h1 h2 hl
  exact lv_ldiv C.2.2.2.2.2.1 C.2.2.2.2.2.2.1 d hne (by rw [hz]; exact k H locs ls hP h1 h2 hl)
theorem jw_lrem (C : jC X l cc own Ts rm nL D cI cB ro) {x y : Int64} (z : Int64) (d : decode cc pc = .ok (.lrem, 1)) (hne : ¬ y = 0) (hz : x - x / y * y = z) (k : jW X (pc + 1) lv (.long z :: st) ws) : jW X pc lv (.long y :: .long x :: st) ws := by
  obtain ⟨p, l', e, R, s, m, args, below, meth, c, nL', D', A, ro', cells, slots, Q⟩ := X
  intro H locs ls hP h1 h2 hl
  exact lv_lrem C.2.2.2.2.2.1 C.2.2.2.2.2.2.1 d hne (by rw [hz]; exact k H locs ls hP h1 h2 hl)
theorem jw_dup (C : jC X l cc own Ts rm nL D cI cB ro) {a : Value} (d : decode cc pc = .ok (.dup, 1)) (ha : a.category = 1) (k : jW X (pc + 1) lv (a :: a :: st) ws) : jW X pc lv (a :: st) ws := by
  obtain ⟨p, l', e, R, s, m, args, below, meth, c, nL', D', A, ro', cells, slots, Q⟩ := X
  intro H locs ls hP h1 h2 hl
  exact lv_dup C.2.2.2.2.2.1 C.2.2.2.2.2.2.1 d ha (k H locs ls hP h1 h2 hl)
theorem jw_pop (C : jC X l cc own Ts rm nL D cI cB ro) {a : Value} (d : decode cc pc = .ok (.pop, 1)) (ha : a.category = 1) (k : jW X (pc + 1) lv st ws) : jW X pc lv (a :: st) ws := by
  obtain ⟨p, l', e, R, s, m, args, below, meth, c, nL', D', A, ro', cells, slots, Q⟩ := X
  intro H locs ls hP h1 h2 hl
  exact lv_pop C.2.2.2.2.2.1 C.2.2.2.2.2.2.1 d ha (k H locs ls hP h1 h2 hl)
theorem jw_dup2 (C : jC X l cc own Ts rm nL D cI cB ro) {a b : Value} (d : decode cc pc = .ok (.dup2, 1)) (ha : a.category = 1) (hb : b.category = 1) (k : jW X (pc + 1) lv (a :: b :: a :: b :: st) ws) : jW X pc lv (a :: b :: st) ws := by
  obtain ⟨p, l', e, R, s, m, args, below, meth, c, nL', D', A, ro', cells, slots, Q⟩ := X
  intro H locs ls hP h1 h2 hl
  exact lv_dup2_11 C.2.2.2.2.2.1 C.2.2.2.2.2.2.1 d ha hb (k H locs ls hP h1 h2 hl)
theorem jw_dup_x1 (C : jC X l cc own Ts rm nL D cI cB ro) {a b : Value} (d : decode cc pc = .ok (.dup_x1, 1)) (ha : a.category = 1) (hb : b.category = 1) (k : jW X (pc + 1) lv (a :: b :: a :: st) ws) : jW X pc lv (a :: b :: st) ws := by
  obtain ⟨p, l', e, R, s, m, args, below, meth, c, nL', D', A, ro', cells, slots, Q⟩ := X
  intro H locs ls hP h1 h2 hl
  exact lv_dup_x1 C.2.2.2.2.2.1 C.2.2.2.2.2.2.1 d ha hb (k H locs ls hP h1 h2 hl)
theorem jw_goto (C : jC X l cc own Ts rm nL D cI cB ro) {off : Int} {tgt : Nat} (d : decode cc pc = .ok (.goto off, 3)) (ht : (pc : Int) + off = (tgt : Int)) (k : jW X tgt lv st ws) : jW X pc lv st ws := by
  obtain ⟨p, l', e, R, s, m, args, below, meth, c, nL', D', A, ro', cells, slots, Q⟩ := X
  intro H locs ls hP h1 h2 hl
  exact lv_goto C.2.2.2.2.2.1 C.2.2.2.2.2.2.1 d ht (k H locs ls hP h1 h2 hl)
theorem jw_icmp_eq (C : jC X l cc own Ts rm nL D cI cB ro) {x y : Int} {off : Int} {tgt : Nat} (d : decode cc pc = .ok (.if_icmp .eq off, 3)) (ht : (pc : Int) + off = (tgt : Int)) (hx : -2147483648 ≤ x ∧ x < 2147483648) (hy : -2147483648 ≤ y ∧ y < 2147483648) (kt : x = y → jW X tgt lv st ws) (kf : ¬ x = y → jW X (pc + 3) lv st ws) : jW X pc lv (.int (jI y) :: .int (jI x) :: st) ws := by
  obtain ⟨p, l', e, R, s, m, args, below, meth, c, nL', D', A, ro', cells, slots, Q⟩ := X
  intro H locs ls hP h1 h2 hl
  exact lv_icmp_eq C.2.2.2.2.2.1 C.2.2.2.2.2.2.1 d ht (fun q => kt ((jI_eq hx hy).mp q) H locs ls hP h1 h2 hl) (fun q => kf (fun hh => q ((jI_eq hx hy).mpr hh)) H locs ls hP h1 h2 hl)
theorem jw_if_eq (C : jC X l cc own Ts rm nL D cI cB ro) {x : Int} {off : Int} {tgt : Nat} (d : decode cc pc = .ok (.ifCond .eq off, 3)) (ht : (pc : Int) + off = (tgt : Int)) (hx : -2147483648 ≤ x ∧ x < 2147483648) (kt : x = 0 → jW X tgt lv st ws) (kf : ¬ x = 0 → jW X (pc + 3) lv st ws) : jW X pc lv (.int (jI x) :: st) ws := by
  obtain ⟨p, l', e, R, s, m, args, below, meth, c, nL', D', A, ro', cells, slots, Q⟩ := X
  intro H locs ls hP h1 h2 hl
  exact lv_if_eq C.2.2.2.2.2.1 C.2.2.2.2.2.2.1 d ht (fun q => kt ((jI_eq (y := 0) hx ⟨by decide, by decide⟩).mp q) H locs ls hP h1 h2 hl) (fun q => kf (fun hh => q ((jI_eq (y := 0) hx ⟨by decide, by decide⟩).mpr hh)) H locs ls hP h1 h2 hl)
theorem jw_icmp_ne (C : jC X l cc own Ts rm nL D cI cB ro) {x y : Int} {off : Int} {tgt : Nat} (d : decode cc pc = .ok (.if_icmp .ne off, 3)) (ht : (pc : Int) + off = (tgt : Int)) (hx : -2147483648 ≤ x ∧ x < 2147483648) (hy : -2147483648 ≤ y ∧ y < 2147483648) (kt : ¬ x = y → jW X tgt lv st ws) (kf : x = y → jW X (pc + 3) lv st ws) : jW X pc lv (.int (jI y) :: .int (jI x) :: st) ws := by
  obtain ⟨p, l', e, R, s, m, args, below, meth, c, nL', D', A, ro', cells, slots, Q⟩ := X
  intro H locs ls hP h1 h2 hl
  exact lv_icmp_ne C.2.2.2.2.2.1 C.2.2.2.2.2.2.1 d ht (fun q => kt (fun hh => q ((jI_eq hx hy).mpr hh)) H locs ls hP h1 h2 hl) (fun q => kf ((jI_eq hx hy).mp q) H locs ls hP h1 h2 hl)
theorem jw_if_ne (C : jC X l cc own Ts rm nL D cI cB ro) {x : Int} {off : Int} {tgt : Nat} (d : decode cc pc = .ok (.ifCond .ne off, 3)) (ht : (pc : Int) + off = (tgt : Int)) (hx : -2147483648 ≤ x ∧ x < 2147483648) (kt : ¬ x = 0 → jW X tgt lv st ws) (kf : x = 0 → jW X (pc + 3) lv st ws) : jW X pc lv (.int (jI x) :: st) ws := by
  obtain ⟨p, l', e, R, s, m, args, below, meth, c, nL', D', A, ro', cells, slots, Q⟩ := X
  intro H locs ls hP h1 h2 hl
  exact lv_if_ne C.2.2.2.2.2.1 C.2.2.2.2.2.2.1 d ht (fun q => kt (fun hh => q ((jI_eq (y := 0) hx ⟨by decide, by decide⟩).mpr hh)) H locs ls hP h1 h2 hl) (fun q => kf ((jI_eq (y := 0) hx ⟨by decide, by decide⟩).mp q) H locs ls hP h1 h2 hl)
theorem jw_icmp_lt (C : jC X l cc own Ts rm nL D cI cB ro) {x y : Int} {off : Int} {tgt : Nat} (d : decode cc pc = .ok (.if_icmp .lt off, 3)) (ht : (pc : Int) + off = (tgt : Int)) (hx : -2147483648 ≤ x ∧ x < 2147483648) (hy : -2147483648 ≤ y ∧ y < 2147483648) (kt : x < y → jW X tgt lv st ws) (kf : ¬ x < y → jW X (pc + 3) lv st ws) : jW X pc lv (.int (jI y) :: .int (jI x) :: st) ws := by
  obtain ⟨p, l', e, R, s, m, args, below, meth, c, nL', D', A, ro', cells, slots, Q⟩ := X
  intro H locs ls hP h1 h2 hl
  exact lv_icmp_lt C.2.2.2.2.2.1 C.2.2.2.2.2.2.1 d ht (fun q => kt ((jI_lt hx hy).mp q) H locs ls hP h1 h2 hl) (fun q => kf (fun hh => q ((jI_lt hx hy).mpr hh)) H locs ls hP h1 h2 hl)
theorem jw_if_lt (C : jC X l cc own Ts rm nL D cI cB ro) {x : Int} {off : Int} {tgt : Nat} (d : decode cc pc = .ok (.ifCond .lt off, 3)) (ht : (pc : Int) + off = (tgt : Int)) (hx : -2147483648 ≤ x ∧ x < 2147483648) (kt : x < 0 → jW X tgt lv st ws) (kf : ¬ x < 0 → jW X (pc + 3) lv st ws) : jW X pc lv (.int (jI x) :: st) ws := by
  obtain ⟨p, l', e, R, s, m, args, below, meth, c, nL', D', A, ro', cells, slots, Q⟩ := X
  intro H locs ls hP h1 h2 hl
  exact lv_if_lt C.2.2.2.2.2.1 C.2.2.2.2.2.2.1 d ht (fun q => kt ((jI_lt (y := 0) hx ⟨by decide, by decide⟩).mp q) H locs ls hP h1 h2 hl) (fun q => kf (fun hh => q ((jI_lt (y := 0) hx ⟨by decide, by decide⟩).mpr hh)) H locs ls hP h1 h2 hl)
theorem jw_icmp_ge (C : jC X l cc own Ts rm nL D cI cB ro) {x y : Int} {off : Int} {tgt : Nat} (d : decode cc pc = .ok (.if_icmp .ge off, 3)) (ht : (pc : Int) + off = (tgt : Int)) (hx : -2147483648 ≤ x ∧ x < 2147483648) (hy : -2147483648 ≤ y ∧ y < 2147483648) (kt : y ≤ x → jW X tgt lv st ws) (kf : ¬ y ≤ x → jW X (pc + 3) lv st ws) : jW X pc lv (.int (jI y) :: .int (jI x) :: st) ws := by
  obtain ⟨p, l', e, R, s, m, args, below, meth, c, nL', D', A, ro', cells, slots, Q⟩ := X
  intro H locs ls hP h1 h2 hl
  exact lv_icmp_ge C.2.2.2.2.2.1 C.2.2.2.2.2.2.1 d ht (fun q => kt ((jI_le hy hx).mp q) H locs ls hP h1 h2 hl) (fun q => kf (fun hh => q ((jI_le hy hx).mpr hh)) H locs ls hP h1 h2 hl)
theorem jw_if_ge (C : jC X l cc own Ts rm nL D cI cB ro) {x : Int} {off : Int} {tgt : Nat} (d : decode cc pc = .ok (.ifCond .ge off, 3)) (ht : (pc : Int) + off = (tgt : Int)) (hx : -2147483648 ≤ x ∧ x < 2147483648) (kt : 0 ≤ x → jW X tgt lv st ws) (kf : ¬ 0 ≤ x → jW X (pc + 3) lv st ws) : jW X pc lv (.int (jI x) :: st) ws := by
  obtain ⟨p, l', e, R, s, m, args, below, meth, c, nL', D', A, ro', cells, slots, Q⟩ := X
  intro H locs ls hP h1 h2 hl
  exact lv_if_ge C.2.2.2.2.2.1 C.2.2.2.2.2.2.1 d ht (fun q => kt ((jI_le (x := 0) ⟨by decide, by decide⟩ hx).mp q) H locs ls hP h1 h2 hl) (fun q => kf (fun hh => q ((jI_le (x := 0) ⟨by decide, by decide⟩ hx).mpr hh)) H locs ls hP h1 h2 hl)
theorem jw_icmp_gt (C : jC X l cc own Ts rm nL D cI cB ro) {x y : Int} {off : Int} {tgt : Nat} (d : decode cc pc = .ok (.if_icmp .gt off, 3)) (ht : (pc : Int) + off = (tgt : Int)) (hx : -2147483648 ≤ x ∧ x < 2147483648) (hy : -2147483648 ≤ y ∧ y < 2147483648) (kt : y < x → jW X tgt lv st ws) (kf : ¬ y < x → jW X (pc + 3) lv st ws) : jW X pc lv (.int (jI y) :: .int (jI x) :: st) ws := by
  obtain ⟨p, l', e, R, s, m, args, below, meth, c, nL', D', A, ro', cells, slots, Q⟩ := X
  intro H locs ls hP h1 h2 hl
  exact lv_icmp_gt C.2.2.2.2.2.1 C.2.2.2.2.2.2.1 d ht (fun q => kt ((jI_lt hy hx).mp q) H locs ls hP h1 h2 hl) (fun q => kf (fun hh => q ((jI_lt hy hx).mpr hh)) H locs ls hP h1 h2 hl)
theorem jw_if_gt (C : jC X l cc own Ts rm nL D cI cB ro) {x : Int} {off : Int} {tgt : Nat} (d : decode cc pc = .ok (.ifCond .gt off, 3)) (ht : (pc : Int) + off = (tgt : Int)) (hx : -2147483648 ≤ x ∧ x < 2147483648) (kt : 0 < x → jW X tgt lv st ws) (kf : ¬ 0 < x → jW X (pc + 3) lv st ws) : jW X pc lv (.int (jI x) :: st) ws := by
  obtain ⟨p, l', e, R, s, m, args, below, meth, c, nL', D', A, ro', cells, slots, Q⟩ := X
  intro H locs ls hP h1 h2 hl
  exact lv_if_gt C.2.2.2.2.2.1 C.2.2.2.2.2.2.1 d ht (fun q => kt ((jI_lt (x := 0) ⟨by decide, by decide⟩ hx).mp q) H locs ls hP h1 h2 hl) (fun q => kf (fun hh => q ((jI_lt (x := 0) ⟨by decide, by decide⟩ hx).mpr hh)) H locs ls hP h1 h2 hl)
theorem jw_icmp_le (C : jC X l cc own Ts rm nL D cI cB ro) {x y : Int} {off : Int} {tgt : Nat} (d : decode cc pc = .ok (.if_icmp .le off, 3)) (ht : (pc : Int) + off = (tgt : Int)) (hx : -2147483648 ≤ x ∧ x < 2147483648) (hy : -2147483648 ≤ y ∧ y < 2147483648) (kt : x ≤ y → jW X tgt lv st ws) (kf : ¬ x ≤ y → jW X (pc + 3) lv st ws) : jW X pc lv (.int (jI y) :: .int (jI x) :: st) ws := by
  obtain ⟨p, l', e, R, s, m, args, below, meth, c, nL', D', A, ro', cells, slots, Q⟩ := X
  intro H locs ls hP h1 h2 hl
  exact lv_icmp_le C.2.2.2.2.2.1 C.2.2.2.2.2.2.1 d ht (fun q => kt ((jI_le hx hy).mp q) H locs ls hP h1 h2 hl) (fun q => kf (fun hh => q ((jI_le hx hy).mpr hh)) H locs ls hP h1 h2 hl)
theorem jw_if_le (C : jC X l cc own Ts rm nL D cI cB ro) {x : Int} {off : Int} {tgt : Nat} (d : decode cc pc = .ok (.ifCond .le off, 3)) (ht : (pc : Int) + off = (tgt : Int)) (hx : -2147483648 ≤ x ∧ x < 2147483648) (kt : x ≤ 0 → jW X tgt lv st ws) (kf : ¬ x ≤ 0 → jW X (pc + 3) lv st ws) : jW X pc lv (.int (jI x) :: st) ws := by
  obtain ⟨p, l', e, R, s, m, args, below, meth, c, nL', D', A, ro', cells, slots, Q⟩ := X
  intro H locs ls hP h1 h2 hl
  exact lv_if_le C.2.2.2.2.2.1 C.2.2.2.2.2.2.1 d ht (fun q => kt ((jI_le (y := 0) hx ⟨by decide, by decide⟩).mp q) H locs ls hP h1 h2 hl) (fun q => kf (fun hh => q ((jI_le (y := 0) hx ⟨by decide, by decide⟩).mpr hh)) H locs ls hP h1 h2 hl)
theorem jw_ifb_eq (C : jC X l cc own Ts rm nL D cI cB ro) {b : Prop} [Decidable b] {off : Int} {tgt : Nat} (d : decode cc pc = .ok (.ifCond .eq off, 3)) (ht : (pc : Int) + off = (tgt : Int)) (kt : ¬ b → jW X tgt lv st ws) (kf : b → jW X (pc + 3) lv st ws) : jW X pc lv (.int (jI (jb b)) :: st) ws := by
  obtain ⟨p, l', e, R, s, m, args, below, meth, c, nL', D', A, ro', cells, slots, Q⟩ := X
  intro H locs ls hP h1 h2 hl
  exact lv_if_eq C.2.2.2.2.2.1 C.2.2.2.2.2.2.1 d ht (fun q => kt (fun hb => by rw [jb_t hb] at q; exact absurd q (by decide)) H locs ls hP h1 h2 hl) (fun q => kf (Decidable.of_not_not (fun hb => q (by rw [jb_f hb]; rfl))) H locs ls hP h1 h2 hl)
theorem jw_ifb_ne (C : jC X l cc own Ts rm nL D cI cB ro) {b : Prop} [Decidable b] {off : Int} {tgt : Nat} (d : decode cc pc = .ok (.ifCond .ne off, 3)) (ht : (pc : Int) + off = (tgt : Int)) (kt : b → jW X tgt lv st ws) (kf : ¬ b → jW X (pc + 3) lv st ws) : jW X pc lv (.int (jI (jb b)) :: st) ws := by
  obtain ⟨p, l', e, R, s, m, args, below, meth, c, nL', D', A, ro', cells, slots, Q⟩ := X
  intro H locs ls hP h1 h2 hl
  exact lv_if_ne C.2.2.2.2.2.1 C.2.2.2.2.2.2.1 d ht (fun q => kt (Decidable.of_not_not (fun hb => q (by rw [jb_f hb]; rfl))) H locs ls hP h1 h2 hl) (fun q => kf (fun hb => by rw [jb_t hb] at q; exact absurd q (by decide)) H locs ls hP h1 h2 hl)
theorem jw_table (C : jC X l cc own Ts rm nL D cI cB ro) {dflt lo hi : Int} {offs : Array Int} {len : Nat} {x : Int} (d : decode cc pc = .ok (.tableswitch dflt lo hi offs, len)) (hx : -2147483648 ≤ x ∧ x < 2147483648) {off : Int} {tgt : Nat} (h1 : ¬ x < lo) (h2 : ¬ hi < x) (ho : offs[(x - lo).toNat]? = some off) (ht : (pc : Int) + off = (tgt : Int)) (kt : jW X tgt lv st ws) : jW X pc lv (.int (jI x) :: st) ws := by
  obtain ⟨p, l', e, R, s, m, args, below, meth, c, nL', D', A, ro', cells, slots, Q⟩ := X
  intro H locs ls hP g1 g2 hl
  refine lv_tableIn C.2.2.2.2.2.1 C.2.2.2.2.2.2.1 d (by rw [jI_t hx]; exact h1) (by rw [jI_t hx]; exact h2) (by rw [jI_t hx]; exact ho) ht (kt H locs ls hP g1 g2 hl)
theorem jw_tableOut (C : jC X l cc own Ts rm nL D cI cB ro) {dflt lo hi : Int} {offs : Array Int} {len : Nat} {x : Int} (d : decode cc pc = .ok (.tableswitch dflt lo hi offs, len)) (hx : -2147483648 ≤ x ∧ x < 2147483648) {tgt : Nat} (h : x < lo ∨ hi < x) (ht : (pc : Int) + dflt = (tgt : Int)) (kt : jW X tgt lv st ws) : jW X pc lv (.int (jI x) :: st) ws := by
  obtain ⟨p, l', e, R, s, m, args, below, meth, c, nL', D', A, ro', cells, slots, Q⟩ := X
  intro H locs ls hP g1 g2 hl
  exact lv_tableOut C.2.2.2.2.2.1 C.2.2.2.2.2.2.1 d (by rw [jI_t hx]; exact h) ht (kt H locs ls hP g1 g2 hl)
theorem jw_lookup (C : jC X l cc own Ts rm nL D cI cB ro) {dflt : Int} {ps : Array (Int × Int)} {len : Nat} {x : Int} (d : decode cc pc = .ok (.lookupswitch dflt ps, len)) (hp : (ps.toList.zip (ps.toList.drop 1)).all (fun (a, next) => a.1 < next.1) = true) (hx : -2147483648 ≤ x ∧ x < 2147483648) {off : Int} {tgt : Nat} (ho : Op.lookupswitch.offset ps.toList dflt x = off) (ht : (pc : Int) + off = (tgt : Int)) (kt : jW X tgt lv st ws) : jW X pc lv (.int (jI x) :: st) ws := by
  obtain ⟨p, l', e, R, s, m, args, below, meth, c, nL', D', A, ro', cells, slots, Q⟩ := X
  intro H locs ls hP g1 g2 hl
  exact lv_lookup C.2.2.2.2.2.1 C.2.2.2.2.2.2.1 d hp (by rw [jI_t hx]; exact ho) ht (kt H locs ls hP g1 g2 hl)
theorem jw_get (C : jC X l cc own Ts rm nL D cI cB ro) {ref Cn : String} {T : u_T} {N ci index a : Nat} (hin : ∀ w ∈ u_ws Cn T N, w ∈ Ts) (q0 : Nat) {fs : List Value} (he : ws[q0]? = some (a, .inr (ci, fs))) (hc : vwCl[ci]? = some (Cn, T, N)) (k : Nat) (hk : k < N) (hlink : Cond.fieldLink own index ref (T k).2.1 (T k).2.2.1 ∈ Ts) (href : (T k).1 = ref) {v : Value} (hv : fs[k]? = some v) (d : decode cc pc = .ok (.getfield index, 3)) (kk : jW X (pc + 3) lv (v :: st) ws) : jW X pc lv (.ref a :: st) ws := by
  obtain ⟨p, l', e, R, s, m, args, below, meth, c, nL', D', A, ro', cells, slots, Q⟩ := X
  intro H locs ls hP h1 h2 hl
  obtain ⟨rfl, rfl, rfl, rfl, rfl, hx, hb, hml, hown, hts, hK, hA, hcs, hss⟩ := id C
  subst href
  exact va_get (D := D') hx hb hts hin hown hK.1 hP q0 he hc k hk (hts _ hlink) (fun _ h9 => h9) hv d (kk H locs ls hP h1 h2 hl)
theorem jw_put (C : jC X l cc own Ts rm nL D cI cB false) {ref Cn : String} {T : u_T} {N ci index a : Nat} (hin : ∀ w ∈ u_ws Cn T N, w ∈ Ts) (ty0 : Nat → FieldType) (hty : ∀ k, k < N → parseFieldDescriptor (T k).2.2.1 = some (ty0 k)) (hnm : ∀ a, a < N → ∀ b, b < N → a ≠ b → (T a).2.1 ≠ (T b).2.1) (q0 : Nat) {fs : List Value} (he : ws[q0]? = some (a, .inr (ci, fs))) (hc : vwCl[ci]? = some (Cn, T, N)) (k : Nat) (hk : k < N) (hlink : Cond.fieldLink own index ref (T k).2.1 (T k).2.2.1 ∈ Ts) (href : (T k).1 = ref) (hfin : (T k).2.2.2 = false) {ty : FieldType} {v : Value} (hd : parseFieldDescriptor (T k).2.2.1 = some ty) (hn : narrow ty v = v) (hfit : fits ty v = true) (hlen : k < fs.length) {ws' : va_W} (hw : ws.set q0 (a, .inr (ci, fs.set k v)) = ws') (d : decode cc pc = .ok (.putfield index, 3)) (kk : jW X (pc + 3) lv st ws') : jW X pc lv (v :: .ref a :: st) ws := by
  obtain ⟨p, l', e, R, s, m, args, below, meth, c, nL', D', A, ro', cells, slots, Q⟩ := X
  intro H locs ls hP h1 h2 hl
  obtain ⟨rfl, rfl, rfl, rfl, hro, hx, hb, hml, hown, hts, hK, hA, hcs, hss⟩ := id C
  subst href
  subst hw
  refine va_put (D := D') hx hb hts hin ty0 hty hnm hown hK.1 hP (h1 hro).1 (h1 hro).2 q0 he hc k hk (hts _ hlink) (fun _ h9 => h9) hfin hd hn hfit hlen d (fun H1 locs1 a1 a2 a3 => ?_)
  exact kk H1 locs1 ls a1 (fun _ => ⟨a2, a3⟩) (fun q => absurd (hro.symm.trans q) (by decide)) hl
/-- an int array's place read, a byte array's -/
theorem jw_iald (C : jC X l cc own Ts rm nL D cI cB ro) {a n : Nat} {f : Nat → Int} {z : Int} (q0 k : Nat) (ha : ws[q0]? = some (a, .inl (cI, n, .inl (fun j => jI (f j))))) (hk : z = (k : Int)) (hlt : k < n) (hn : n < 2147483648) (d : decode cc pc = .ok (.iaload, 1)) (kk : jW X (pc + 1) lv (.int (jI (f k)) :: st) ws) : jW X pc lv (.int (jI z) :: .ref a :: st) ws := by
  obtain ⟨p, l', e, R, s, m, args, below, meth, c, nL', D', A, ro', cells, slots, Q⟩ := X
  intro H locs ls hP h1 h2 hl
  obtain ⟨rfl, rfl, rfl, rfl, rfl, hx, hb, hml, hown, hts, hK, hA, hcs, hss⟩ := id C
  refine va_iald (D := D') hx hb hK.1 hP q0 0 ha rfl (jI_in hk hlt hn) d ?_
  rw [jI_clamp hk (by omega)]
  exact kk H locs ls hP h1 h2 hl
theorem jw_bald (C : jC X l cc own Ts rm nL D cI cB ro) {a n : Nat} {f : Nat → Int} {z : Int} (q0 k : Nat) (ha : ws[q0]? = some (a, .inl (cB, n, .inl (fun j => jI (f j))))) (hk : z = (k : Int)) (hlt : k < n) (hn : n < 2147483648) (d : decode cc pc = .ok (.baload, 1)) (kk : jW X (pc + 1) lv (.int (jI (f k)) :: st) ws) : jW X pc lv (.int (jI z) :: .ref a :: st) ws := by
  obtain ⟨p, l', e, R, s, m, args, below, meth, c, nL', D', A, ro', cells, slots, Q⟩ := X
  intro H locs ls hP h1 h2 hl
  obtain ⟨rfl, rfl, rfl, rfl, rfl, hx, hb, hml, hown, hts, hK, hA, hcs, hss⟩ := id C
  refine va_bald (D := D') hx hb hK.1 hP q0 1 ha rfl (jI_in hk hlt hn) d ?_
  rw [jI_clamp hk (by omega)]
  exact kk H locs ls hP h1 h2 hl
theorem jI_up (f : Nat → Int) (k : Nat) (v : Int) : upd (fun j => jI (f j)) k (jI v) = fun j => jI (va_up f k v j) := by
  funext j
  by_cases h : j = k <;> simp [upd, va_up, h]
theorem jw_iast (C : jC X l cc own Ts rm nL D cI cB false) {a n : Nat} {f : Nat → Int} {z v : Int} (q0 k : Nat) (ha : ws[q0]? = some (a, .inl (cI, n, .inl (fun j => jI (f j))))) (hk : z = (k : Int)) (hlt : k < n) (hn : n < 2147483648) {ws' : va_W} (hw : ws.set q0 (a, .inl (cI, n, .inl (fun j => jI (va_up f k v j)))) = ws') (d : decode cc pc = .ok (.iastore, 1)) (kk : jW X (pc + 1) lv st ws') : jW X pc lv (.int (jI v) :: .int (jI z) :: .ref a :: st) ws := by
  obtain ⟨p, l', e, R, s, m, args, below, meth, c, nL', D', A, ro', cells, slots, Q⟩ := X
  intro H locs ls hP h1 h2 hl
  obtain ⟨rfl, rfl, rfl, rfl, hro, hx, hb, hml, hown, hts, hK, hA, hcs, hss⟩ := id C
  subst hw
  refine va_iast (D := D') hx hb hK.1 hP (h1 hro).1 (h1 hro).2 q0 0 ha rfl (jI_in hk hlt hn) d (fun H1 locs1 a1 a2 a3 => ?_)
  rw [jI_clamp hk (by omega), jI_up] at a1 a2
  exact kk H1 locs1 ls a1 (fun _ => ⟨a2, a3⟩) (fun q => absurd (hro.symm.trans q) (by decide)) hl
theorem jw_bast (C : jC X l cc own Ts rm nL D cI cB false) {a n : Nat} {f : Nat → Int} {z v : Int} (q0 k : Nat) (ha : ws[q0]? = some (a, .inl (cB, n, .inl (fun j => jI (f j))))) (hk : z = (k : Int)) (hlt : k < n) (hn : n < 2147483648) (hv : (jI v).toInt8.toInt32 = jI v) {ws' : va_W} (hw : ws.set q0 (a, .inl (cB, n, .inl (fun j => jI (va_up f k v j)))) = ws') (d : decode cc pc = .ok (.bastore, 1)) (kk : jW X (pc + 1) lv st ws') : jW X pc lv (.int (jI v) :: .int (jI z) :: .ref a :: st) ws := by
  obtain ⟨p, l', e, R, s, m, args, below, meth, c, nL', D', A, ro', cells, slots, Q⟩ := X
  intro H locs ls hP h1 h2 hl
  obtain ⟨rfl, rfl, rfl, rfl, hro, hx, hb, hml, hown, hts, hK, hA, hcs, hss⟩ := id C
  subst hw
  refine va_bast (D := D') hx hb hK.1 hP (h1 hro).1 (h1 hro).2 q0 1 ha rfl (jI_in hk hlt hn) d (fun H1 locs1 a1 a2 a3 => ?_)
  rw [jI_clamp hk (by omega), vp_nar_byte, hv, jI_up] at a1 a2
  exact kk H1 locs1 ls a1 (fun _ => ⟨a2, a3⟩) (fun q => absurd (hro.symm.trans q) (by decide)) hl
/-- the top by another name; locals and cells by equal ones -/
theorem jw_top {x y : Int32} (h : x = y) (k : jW X pc lv (.int y :: st) ws) : jW X pc lv (.int x :: st) ws := h ▸ k
theorem jw_eq {lv' : List (Nat × Value)} {st' : List Value} {ws' : va_W} (k : jW X pc lv' st' ws') (h1 : lv' = lv) (h2 : st' = st) (h3 : ws' = ws) : jW X pc lv st ws := by
  subst h1 h2 h3
  exact k
theorem jw_lv (ks : List Nat) {lv' : List (Nat × Value)} (h : lv_pick lv ks = lv') (k : jW X pc lv' st ws) : jW X pc lv st ws := by
  obtain ⟨p, l', e, R, s, m, args, below, meth, c, nL', D', A, ro', cells, slots, Q⟩ := X
  intro H locs ls hP h1 h2 hl
  exact k H locs ls hP h1 h2 (lv_sub hl ks h)
end JR
