/-! making: objects, arrays, constructors. jBump: the same place with more cells made -/
def jBump (X : jX) (k n : Nat) : jX := match X with
  | (p, l, e, R, s, m, args, below, meth, c, nL, D, A, ro, cells, slots, Q) => (p, l, e, R, s, m, args, below, meth, c, nL, D, A, ro, cells + k, slots + n, Q)
def jN (X : jX) (rm : Room) (mc ms : Nat) : Prop := match X with
  | (_, _, _, _, _, _, _, _, _, _, _, _, _, _, cells, slots, _) => cells + mc ≤ rm.cells ∧ slots + ms ≤ rm.slots
def jIn (X : jX) : Prop := match X with
  | (_, _, _, _, _, _, _, _, meth, _, _, _, _, _, _, _, _) => meth.name = "<init>"
def jQn {S : Type} (w1 : S → va_W) (D : va_G) (A : Nat → Prop) : Array Value → State → Outcome → State → Prop := fun _ st oc t => (∃ u : S, oc = .returned none ∧ va_P D vwCl (w1 u) t.heap ∧ va_D A (w1 u)) ∧ va_F A st t
def jMC {S : Type} (l : Launch) (y : MethodName) (ws : List Cond) (rm : Room) (D : va_G) (cI cB : ClassId) (a : Nat) (o : va_E) (mc ms : Nat) (w1 : S → va_W) : Prop := ∀ sz : Nat, Met l y ws rm (jPW D cI cB [.ref a] [(a, o)] sz) (jQn w1 D (va_A [(a, o)] sz)) mc ms (va_A [(a, o)] sz)
def jEC {S : Type} (X : jX) (mc ms : Nat) (w1 : S → va_W) : Prop := match X with
  | (_, _, _, _, s, _, args, below, meth, _, _, D, A, _, cells, slots, Q) => meth.sig.returnType = none ∧ meth.locks = false ∧ cells = 0 ∧ slots = 0 ∧ Q = MQ below (jQn w1 D A) args s mc ms A
theorem jMC.of {S : Type} {l : Launch} {y : MethodName} {ws ws' : List Cond} {rm : Room} {D : va_G} {cI cB : ClassId} {a : Nat} {o : va_E} {mc ms : Nat} {w1 : S → va_W} {cc : ByteArray} {maxL : Nat} {own : String} (ho : y.cls = own) (hy : plainName y.cls = true) (hn : y.name = "<init>") (hw : ws = Cond.code y cc maxL none :: ws') (hlen : (lg_sl [Value.ref a]).length ≤ maxL) (hmc : mc ≤ rm.cells) (hms : ms ≤ rm.slots)
    (body : ∀ X : jX, jC X l cc own ws rm maxL D cI cB false → jN X rm mc ms → jIn X → jEC X mc ms w1 → jW (jBump X 0 0) 0 (lv_args 0 [.ref a]) [] [(a, o)]) : jMC l y ws rm D cI cB a o mc ms w1 := by
  intro sz
  refine Met.ofW hy hw ?_
  intro p e s m args below meth c s₁ B hml hv
  obtain ⟨rfl, hsz, hP, hK, hD0⟩ := hv
  subst hsz
  have hD := hD0.self (sz := s.heap.size)
  have hts := atoms_spec (ws := ws) B.pre
  rw [lg_entry_eq]
  exact body (p, l, e, rm, s, m, [Value.ref a].toArray, below, meth, c, maxL, D, va_A [(a, o)] s.heap.size, false, 0, 0, MQ below (jQn w1 D (va_A [(a, o)] s.heap.size)) [Value.ref a].toArray s mc ms (va_A [(a, o)] s.heap.size)) ⟨rfl, rfl, rfl, rfl, rfl, B.exec, B.bytes, hml, ho ▸ findClass_of_methodNamed B.named, hts, hK, fun _ h => Or.inr h, Nat.zero_le _, Nat.zero_le _⟩ (by unfold jN; constructor <;> omega) (by unfold jIn; rw [← hn]; exact (name_of_methodNamed B.named B.method).1) ⟨B.returns, B.notSynchronized, rfl, rfl, rfl⟩ s.heap [] _ hP (fun _ => ⟨hD, va_S.rf⟩) (fun q => absurd q (by decide)) (lv_entry [Value.ref a] hlen)
section JMAKE
variable {X : jX} {l : Launch} {cc : ByteArray} {own : String} {Ts : List Cond} {rm : Room} {nL : Nat} {D : va_G} {cI cB : ClassId} {pc : Nat} {lv : List (Nat × Value)} {st : List Value} {ws : va_W} {mc ms : Nat}
theorem jBump.C (k n : Nat) (C : jC X l cc own Ts rm nL D cI cB false) (N : jN X rm mc ms) (h1 : k ≤ mc) (h2 : n ≤ ms) : jC (jBump X k n) l cc own Ts rm nL D cI cB false := by
  obtain ⟨p, l', e, R, s, m, args, below, meth, c, nL', D', A, ro', cells, slots, Q⟩ := X
  obtain ⟨g1, g2, g3, g4, hro, hx, hb, hml, hown, hts, hK, hA, hcs, hss⟩ := C
  subst g2
  exact ⟨g1, rfl, g3, g4, hro, hx, hb, hml, hown, hts, hK, hA, Nat.le_trans (Nat.add_le_add_left h1 _) N.1, Nat.le_trans (Nat.add_le_add_left h2 _) N.2⟩
theorem jBump.I (k n : Nat) (I : jIn X) : jIn (jBump X k n) := I
theorem jw_objInit (C : jC X l cc own Ts rm nL D cI cB false) {a index : Nat} (h1 : Cond.methodLink own index Lib.objectInit ∈ Ts) (h2 : Cond.instanceMethod Lib.objectInit ∈ Ts) (h3 : Cond.code Lib.objectInit ⟨#[0xb1]⟩ 1 none ∈ Ts) (hf : 1 ≤ rm.frames) (hlo : 12 ≤ rm.locals) (d : decode cc pc = .ok (.invokespecial index, 3)) (kk : jW X (pc + 3) lv [] ws) : jW X pc lv [.ref a] ws := by
  obtain ⟨p, l', e, R, s, m, args, below, meth, c, nL', D', A, ro', cells, slots, Q⟩ := X
  intro H locs ls hP g1 g2 hl
  obtain ⟨rfl, rfl, rfl, rfl, hro, hx, hb, hml, hown, hts, hK, hA, hcs, hss⟩ := id C
  refine W.objInit hx hb hown (hts _ h1) (hts _ h2) (hts _ h3) rfl (by rw [hml]; exact hl.1) rfl d hf ?_ ?_
  · have e0 : (F0 m pc ls [Value.ref a]).monitorRoom = 0 := rfl
    rw [e0]
    simpa using hlo
  · exact W.eq (g2 := F0 m (pc + 3) ls []) rfl (kk H locs ls hP g1 g2 hl)
theorem jw_newI (C : jC X l cc own Ts rm nL D cI cB false) (N : jN X rm mc ms) (k s0 n k2 s2 : Nat) (hk : k + 1 = k2) (hs : s0 + n = s2) (hkm : k2 ≤ mc) (hsm : s2 ≤ ms) (hw : Cond.arrayClass .int ∈ Ts) (hn : n < 1000) {z : Int} (hz : z = (n : Int)) (d : decode cc pc = .ok (.newarray .int, 2))
    (kk : ∀ q : Nat, jW (jBump X k2 s2) (pc + 2) lv (.ref q :: st) (ws ++ [(q, .inl (cI, n, .inl (fun _ => jI 0)))])) : jW (jBump X k s0) pc lv (.int (jI z) :: st) ws := by
  subst hk hs hz
  obtain ⟨p, l', e, R, s, m, args, below, meth, c, nL', D', A, ro', cells, slots, Q⟩ := X
  intro H locs ls hP h1 h2 hl
  obtain ⟨rfl, rfl, rfl, rfl, hro, hx, hb, hml, hown, hts, hK, hA, hcs, hss⟩ := id C
  obtain ⟨hD, hS⟩ := h1 hro
  have hr := hK.1.2 0 _ rfl
  have N1 : cells + mc ≤ R.cells := N.1
  have N2 : slots + ms ≤ R.slots := N.2
  refine va_newaK (atype := .int) (N := n) hx hb (hts _ hw) rfl d rfl (by rw [show (0 : Int32) = jI 0 from rfl, jI_lt (by omega) (by omega)]; omega) (jI_clamp rfl (by omega)) (by show n * 4 ≤ 536870912; omega) (by omega) (by omega) rfl fun H1 cA e1 z1 o1 hAr hNm => ?_
  have hcA : cA = cI := Option.some.inj (hNm.symm.trans hr.2)
  subst hcA
  have hk0 : ∀ (k : Nat) (x : Nat × va_E), ws[k]? = some x → H1[x.1]? = H[x.1]? := fun k x hx0 => o1 x.1 ((hP k x hx0).lt)
  rw [Nat.add_assoc, Nat.add_assoc]
  refine kk H.size H1 locs ls ((hP.kept hk0).app (fun k x hx0 => ?_)) (fun _ => ⟨hD.push hP rfl (hA _ hS.1), ⟨Nat.le_trans hS.1 (by omega), fun x g1 g2 => (o1 x (Nat.lt_of_lt_of_le g1 hS.1)).trans (hS.2.1 x g1 g2), hS.2.2⟩⟩) (fun q => absurd (hro.symm.trans q) (by decide)) hl
  have hz0 : k < 1 := (List.getElem?_eq_some_iff.mp hx0).1
  rw [show k = 0 by omega] at hx0
  cases hx0
  exact e1
theorem jw_newB (C : jC X l cc own Ts rm nL D cI cB false) (N : jN X rm mc ms) (k s0 n k2 s2 : Nat) (hk : k + 1 = k2) (hs : s0 + n = s2) (hkm : k2 ≤ mc) (hsm : s2 ≤ ms) (hw : Cond.arrayClass .byte ∈ Ts) (hn : n < 1000) {z : Int} (hz : z = (n : Int)) (d : decode cc pc = .ok (.newarray .byte, 2))
    (kk : ∀ q : Nat, jW (jBump X k2 s2) (pc + 2) lv (.ref q :: st) (ws ++ [(q, .inl (cB, n, .inl (fun _ => jI 0)))])) : jW (jBump X k s0) pc lv (.int (jI z) :: st) ws := by
  subst hk hs hz
  obtain ⟨p, l', e, R, s, m, args, below, meth, c, nL', D', A, ro', cells, slots, Q⟩ := X
  intro H locs ls hP h1 h2 hl
  obtain ⟨rfl, rfl, rfl, rfl, hro, hx, hb, hml, hown, hts, hK, hA, hcs, hss⟩ := id C
  obtain ⟨hD, hS⟩ := h1 hro
  have hr := hK.1.2 1 _ rfl
  have N1 : cells + mc ≤ R.cells := N.1
  have N2 : slots + ms ≤ R.slots := N.2
  refine va_newaK (atype := .byte) (N := n) hx hb (hts _ hw) rfl d rfl (by rw [show (0 : Int32) = jI 0 from rfl, jI_lt (by omega) (by omega)]; omega) (jI_clamp rfl (by omega)) (by show n * 1 ≤ 536870912; omega) (by omega) (by omega) rfl fun H1 cA e1 z1 o1 hAr hNm => ?_
  have hcA : cA = cB := Option.some.inj (hNm.symm.trans hr.2)
  subst hcA
  have hk0 : ∀ (k : Nat) (x : Nat × va_E), ws[k]? = some x → H1[x.1]? = H[x.1]? := fun k x hx0 => o1 x.1 ((hP k x hx0).lt)
  rw [Nat.add_assoc, Nat.add_assoc]
  refine kk H.size H1 locs ls ((hP.kept hk0).app (fun k x hx0 => ?_)) (fun _ => ⟨hD.push hP rfl (hA _ hS.1), ⟨Nat.le_trans hS.1 (by omega), fun x g1 g2 => (o1 x (Nat.lt_of_lt_of_le g1 hS.1)).trans (hS.2.1 x g1 g2), hS.2.2⟩⟩) (fun q => absurd (hro.symm.trans q) (by decide)) hl
  have hz0 : k < 1 := (List.getElem?_eq_some_iff.mp hx0).1
  rw [show k = 0 by omega] at hx0
  cases hx0
  exact e1
theorem jw_new (C : jC X l cc own Ts rm nL D cI cB false) (N : jN X rm mc ms) (k s0 k2 s2 : Nat) {Cn : String} {T : u_T} {NN ci index : Nat} (hk : k + 1 = k2) (hs : s0 + NN = s2) (hkm : k2 ≤ mc) (hsm : s2 ≤ ms) (hin : ∀ w ∈ u_ws Cn T NN, w ∈ Ts) (ty : Nat → FieldType) (hty : ∀ k, k < NN → parseFieldDescriptor (T k).2.2.1 = some (ty k)) (hcl : Cond.classLink own index Cn ∈ Ts) (hinst : Cond.instantiable Cn NN ∈ Ts) (hini : Cond.initialized Cn ∈ Ts) (hc : vwCl[ci]? = some (Cn, T, NN)) {fs : List Value} (hfs : ∀ j, j < NN → defaultValue (ty j) = vp_V fs j) (d : decode cc pc = .ok (.new index, 3))
    (kk : ∀ q : Nat, jW (jBump X k2 s2) (pc + 3) lv (.ref q :: st) (ws ++ [(q, .inr (ci, fs))])) : jW (jBump X k s0) pc lv st ws := by
  subst hk hs
  obtain ⟨p, l', e, R, s, m, args, below, meth, c, nL', D', A, ro', cells, slots, Q⟩ := X
  intro H locs ls hP h1 h2 hl
  obtain ⟨rfl, rfl, rfl, rfl, hro, hx, hb, hml, hown, hts, hK, hA, hcs, hss⟩ := id C
  obtain ⟨hD, hS⟩ := h1 hro
  have N1 : cells + mc ≤ R.cells := N.1
  have N2 : slots + ms ≤ R.slots := N.2
  exact va_new hx hb hts hin ty hty hown (hts _ hcl) (hts _ hinst) (hts _ hini) hK.1 hP hD hS hA hc hfs (by omega) (by omega) d fun q H1 a1 a2 a3 => by
    rw [Nat.add_assoc, Nat.add_assoc]
    exact kk q H1 locs ls a1 (fun _ => ⟨a2, a3⟩) (fun q => absurd (hro.symm.trans q) (by decide)) hl
theorem jw_putF (C : jC X l cc own Ts rm nL D cI cB false) (I : jIn X) {ref Cn : String} {T : u_T} {N ci index a : Nat} (hin : ∀ w ∈ u_ws Cn T N, w ∈ Ts) (ty0 : Nat → FieldType) (hty : ∀ k, k < N → parseFieldDescriptor (T k).2.2.1 = some (ty0 k)) (hnm : ∀ a, a < N → ∀ b, b < N → a ≠ b → (T a).2.1 ≠ (T b).2.1) (q0 : Nat) {fs : List Value} (he : ws[q0]? = some (a, .inr (ci, fs))) (hc : vwCl[ci]? = some (Cn, T, N)) (k : Nat) (hk : k < N) (hlink : Cond.fieldLink own index ref (T k).2.1 (T k).2.2.1 ∈ Ts) (href : (T k).1 = ref) (hdecl : (T k).1 = own) (hfin : (T k).2.2.2 = true) {ty : FieldType} {v : Value} (hd : parseFieldDescriptor (T k).2.2.1 = some ty) (hn : narrow ty v = v) (hfit : fits ty v = true) (hlen : k < fs.length) {ws' : va_W} (hw : ws.set q0 (a, .inr (ci, fs.set k v)) = ws') (d : decode cc pc = .ok (.putfield index, 3)) (kk : jW X (pc + 3) lv st ws') : jW X pc lv (v :: .ref a :: st) ws := by
  obtain ⟨p, l', e, R, s, m, args, below, meth, c, nL', D', A, ro', cells, slots, Q⟩ := X
  intro H locs ls hP h1 h2 hl
  obtain ⟨rfl, rfl, rfl, rfl, hro, hx, hb, hml, hown, hts, hK, hA, hcs, hss⟩ := id C
  subst href
  subst hw
  refine va_putF (D := D') hx hb hts hin ty0 hty hnm hown hK.1 hP (h1 hro).1 (h1 hro).2 q0 he hc k hk (hts _ hlink) (fun _ h9 => h9) hfin I hdecl hd hn hfit hlen d (fun H1 locs1 a1 a2 a3 => ?_)
  exact kk H1 locs1 ls a1 (fun _ => ⟨a2, a3⟩) (fun q => absurd (hro.symm.trans q) (by decide)) hl
/-- the same cells in another order -/
theorem jw_perm (perm : List Nat) {ws' : va_W} (hnd : va_nd perm = true) (hp : perm.map (fun i => ws[i]?) = ws'.map some) (kk : jW X pc lv st ws') : jW X pc lv st ws := by
  obtain ⟨p, l', e, R, s, m, args, below, meth, c, nL', D', A, ro', cells, slots, Q⟩ := X
  intro H locs ls hP h1 h2 hl
  exact kk H locs ls (hP.sub perm (jfm hp)) (fun q => ⟨(h1 q).1.sub perm hnd hp, (h1 q).2⟩) h2 hl
variable {S : Type} {y : MethodName} {bytes : ByteArray} {maxL' index b : Nat} {ws1 ws2 : List Cond} {rm' : Room} {o : va_E} {w1 : S → va_W} {mc' ms' : Nat}
theorem jw_callI (C : jC X l cc own Ts rm nL D cI cB false) (N : jN X rm mc ms) (k s0 k2 s2 : Nat) (hk : k + mc' = k2) (hs : s0 + ms' = s2) (hkm : k2 ≤ mc) (hsm : s2 ≤ ms) (hM : jMC l y ws1 rm' D cI cB b o mc' ms' w1) (hG : GoodIn Ts ws1) (hw : ws1 = Cond.code y bytes maxL' none :: ws2) (hc0 : rm'.cells = mc') (hs0 : rm'.slots = ms') (hini : Cond.initialized y.cls ∈ Ts) (hlk : Cond.methodLink own index y ∈ Ts) (hinst : Cond.instanceMethod y ∈ Ts) (hyn : y.name = "<init>")
    (hd : y.cls ≠ "java/lang/invoke/MethodHandle" ∧ y.cls ≠ "java/lang/invoke/VarHandle" ∧ (parseMethodDescriptor y.desc).map (fun d => d.parameters.length) = some 0) (hR : rm'.frames + 1 ≤ rm.frames ∧ 8 + (maxL' + 11) + rm'.locals ≤ rm.locals)
    (q0 : Nat) (he : ws[q0]? = some (b, o)) (isR : List Nat) {wr : va_W} (hRr : isR.map (fun i => ws[i]?) = wr.map some) (hnd : va_nd isR = true) (hdis : ∀ i ∈ isR, i ≠ q0) (hst : (st.map fun v => v.category).sum ≤ 8) (d : decode cc pc = .ok (.invokespecial index, 3))
    (kk : ∀ u : S, jW (jBump X k2 s2) (pc + 3) lv st (wr ++ w1 u)) : jW (jBump X k s0) pc lv (.ref b :: st) ws := by
  subst hk hs
  obtain ⟨p, l', e, R, s, m, args, below, meth, c, nL', D', A, ro', cells, slots, Q⟩ := X
  intro H locs ls hP h1 h2 hl
  obtain ⟨rfl, rfl, rfl, rfl, hro, hx, hb, hml, hown, hts, hK, hA, hcs, hss⟩ := id C
  obtain ⟨hD, hS⟩ := h1 hro
  have N1 : cells + mc ≤ R.cells := N.1
  have N2 : slots + ms ≤ R.slots := N.2
  have hC : [q0].map (fun i => ws[i]?) = [(b, o)].map some := by simp [he]
  have hPc := hP.sub [q0] (jfm hC)
  have hDc := hD.sub [q0] (by rfl) hC
  have hFc := va_free (wc := [(b, o)]) hD hS hA [q0] hC
  have hr := va_runI (e := e) (below := below) (meth := meth) (cells := cells + k) (slots := slots + s0) (locs := locs) (H := H) (g := F0 m pc ls (.ref b :: st)) (As := []) (rest := st) ⟨hx, hb, hml, hown, hts⟩ (hM H.size) (cwI 0 hts hG hw hc0 hs0 (hts _ hini) (hts _ hlk) (hts _ hinst) hyn hd hR) ⟨jPW.blind, fun U hU hW => ⟨rfl, by rw [hU], by rw [hU]; exact hPc, hK.warm hW, hDc.weaken (fun _ _ _ _ => trivial)⟩⟩ rfl rfl hl.1 rfl (lv_room hst) d ⟨by omega, by omega⟩
  intro T1 hT XX
  obtain ⟨v', st₀, t, T', L, h0, X', hL, e1, e2, ⟨⟨u, hv, hp1, hd1⟩, hz, hk⟩, sg⟩ := hr T1 hT XX
  cases hv
  rw [h0] at hz hk
  obtain ⟨hPN, hDN⟩ := va_join hP hD [q0] isR hC hRr hnd (fun i hi hq => hdis i hi (List.mem_singleton.mp hq)) hk hFc hp1 hd1
  have hSN : va_S A s.heap T'.heap (locs ++ L) := ⟨Nat.le_trans hS.1 (by rw [e1]; exact hz), fun q g1 g2 => by rw [e1, hk q (Nat.lt_of_lt_of_le g1 hS.1) (fun z => g2 (hFc q z))]; exact hS.2.1 q g1 g2, fun q hq => by
    rcases List.mem_append.mp hq with h | h
    · exact hS.2.2 q h
    · exact hFc _ (hL q h)⟩
  have X2 : Stand p l' e R s m args below meth c T' (locs ++ L) (cells + (k + mc')) (slots + (s0 + ms')) := by rw [← Nat.add_assoc, ← Nat.add_assoc]; exact X'
  obtain ⟨t2, a1, b1⟩ := kk u T'.heap (locs ++ L) ls (by rw [e1]; exact hPN) (fun _ => ⟨hDN, hSN⟩) (fun q => absurd (hro.symm.trans q) (by decide)) hl T' rfl X2
  exact ⟨t2, sg t2 a1, b1⟩
theorem jw_callN (C : jC X l cc own Ts rm nL D cI cB false) (N : jN X rm mc ms) {host : String} (k s0 k2 s2 : Nat) (hk : k + mc' = k2) (hs : s0 + ms' = s2) (hkm : k2 ≤ mc) (hsm : s2 ≤ ms) (hM : jMC l y ws1 rm' D cI cB b o mc' ms' w1) (hG : GoodIn Ts ws1) (hw : ws1 = Cond.code y bytes maxL' none :: ws2) (hc0 : rm'.cells = mc') (hs0 : rm'.slots = ms') (hini : Cond.initialized y.cls ∈ Ts) (hlk : ∀ U : State, jK D cI cB U → va_Nw (.methodLinkNest own index y host) U) (hinst : Cond.instanceMethod y ∈ Ts) (hyn : y.name = "<init>")
    (hd : y.cls ≠ "java/lang/invoke/MethodHandle" ∧ y.cls ≠ "java/lang/invoke/VarHandle" ∧ (parseMethodDescriptor y.desc).map (fun d => d.parameters.length) = some 0) (hR : rm'.frames + 1 ≤ rm.frames ∧ 8 + (maxL' + 11) + rm'.locals ≤ rm.locals)
    (q0 : Nat) (he : ws[q0]? = some (b, o)) (isR : List Nat) {wr : va_W} (hRr : isR.map (fun i => ws[i]?) = wr.map some) (hnd : va_nd isR = true) (hdis : ∀ i ∈ isR, i ≠ q0) (hst : (st.map fun v => v.category).sum ≤ 8) (d : decode cc pc = .ok (.invokespecial index, 3))
    (kk : ∀ u : S, jW (jBump X k2 s2) (pc + 3) lv st (wr ++ w1 u)) : jW (jBump X k s0) pc lv (.ref b :: st) ws := by
  subst hk hs
  obtain ⟨p, l', e, R, s, m, args, below, meth, c, nL', D', A, ro', cells, slots, Q⟩ := X
  intro H locs ls hP h1 h2 hl
  obtain ⟨rfl, rfl, rfl, rfl, hro, hx, hb, hml, hown, hts, hK, hA, hcs, hss⟩ := id C
  obtain ⟨hD, hS⟩ := h1 hro
  have N1 : cells + mc ≤ R.cells := N.1
  have N2 : slots + ms ≤ R.slots := N.2
  have hC : [q0].map (fun i => ws[i]?) = [(b, o)].map some := by simp [he]
  have hPc := hP.sub [q0] (jfm hC)
  have hDc := hD.sub [q0] (by rfl) hC
  have hFc := va_free (wc := [(b, o)]) hD hS hA [q0] hC
  have hr := va_runIN (e := e) (below := below) (meth := meth) (cells := cells + k) (slots := slots + s0) (locs := locs) (H := H) (g := F0 m pc ls (.ref b :: st)) (As := []) (rest := st) ⟨hx, hb, hml, hown, hts⟩ (hM H.size) ⟨va_cnB 0 hts hG hw hc0 hs0 (hlk s hK) (hts _ hini) hd hR, hyn, hts _ hinst⟩ ⟨jPW.blind, fun U hU hW => ⟨rfl, by rw [hU], by rw [hU]; exact hPc, hK.warm hW, hDc.weaken (fun _ _ _ _ => trivial)⟩⟩ rfl rfl hl.1 rfl (lv_room hst) d ⟨by omega, by omega⟩
  intro T1 hT XX
  obtain ⟨v', st₀, t, T', L, h0, X', hL, e1, e2, ⟨⟨u, hv, hp1, hd1⟩, hz, hk⟩, sg⟩ := hr T1 hT XX
  cases hv
  rw [h0] at hz hk
  obtain ⟨hPN, hDN⟩ := va_join hP hD [q0] isR hC hRr hnd (fun i hi hq => hdis i hi (List.mem_singleton.mp hq)) hk hFc hp1 hd1
  have hSN : va_S A s.heap T'.heap (locs ++ L) := ⟨Nat.le_trans hS.1 (by rw [e1]; exact hz), fun q g1 g2 => by rw [e1, hk q (Nat.lt_of_lt_of_le g1 hS.1) (fun z => g2 (hFc q z))]; exact hS.2.1 q g1 g2, fun q hq => by
    rcases List.mem_append.mp hq with h | h
    · exact hS.2.2 q h
    · exact hFc _ (hL q h)⟩
  have X2 : Stand p l' e R s m args below meth c T' (locs ++ L) (cells + (k + mc')) (slots + (s0 + ms')) := by rw [← Nat.add_assoc, ← Nat.add_assoc]; exact X'
  obtain ⟨t2, a1, b1⟩ := kk u T'.heap (locs ++ L) ls (by rw [e1]; exact hPN) (fun _ => ⟨hDN, hSN⟩) (fun q => absurd (hro.symm.trans q) (by decide)) hl T' rfl X2
  exact ⟨t2, sg t2 a1, b1⟩
theorem jw_vretC (C : jC X l cc own Ts rm nL D cI cB false) (E : jEC X mc ms w1) (k s0 : Nat) (hk : k ≤ mc) (hs : s0 ≤ ms) (d : decode cc pc = .ok (.return_, 1)) (u : S) (hw : ws = w1 u) : jW (jBump X k s0) pc lv [] ws := by
  obtain ⟨p, l', e, R, s, m, args, below, meth, c, nL', D', A, ro', cells, slots, Q⟩ := X
  intro H locs ls hP h1 h2 hl
  obtain ⟨rfl, rfl, rfl, rfl, hro, hx, hb, hml, hown, hts, hK, hA, hcs, hss⟩ := id C
  obtain ⟨hr, hlk, rfl, rfl, rfl⟩ := E
  subst hw
  exact W.widen (by omega) (by omega) (W.vret hx hb hr (fun t ht hW => ⟨⟨u, rfl, by rw [ht]; exact hP, (h1 hro).1⟩, (h1 hro).2.F ht⟩) (h1 hro).2.2.2 d hlk)
end JMAKE
