/-! MAN'S CONTRACT WHERE IT THROWS -/
def nsQ (D : va_G) (G : am_G) (A : Nat → Prop) (a : Nat → Nat) (ks : List am_k) (R : am_R) (I : am_I) (L : am_L) : String → State → State → Prop := fun E st t => E = nsE ∧ am_Qc D G A a (fun _ => True) (fun S => S = (none, ks, R, I, L)) #[] st (.returned none) t
def nsP (D : va_G) (G : am_G) (a : Nat → Nat) (sz : Nat) (av : List Value) (ks : List am_k) (R : am_R) (I : am_I) (L : am_L) : Array Value → State → Prop := va_Pc (av.map (am_v a)) (fun U => U.heap.size = sz ∧ va_P D vwCl (am_ws G a ks R I L) U.heap ∧ va_K D vwCl (am_ty G) U ∧ va_D (fun _ => True) (am_ws G a ks R I L) ∧ am_E (va_A (am_ws G a ks R I L) sz) a U U.heap ∧ am_T (va_A (am_ws G a ks R I L) sz) U U.heap)
set_option maxHeartbeats 1000000 in
theorem bX11_man (l : Launch) (hst : l.stackTraces = false) {al : Bool} (a1 a2 : Int32) (I : am_I) (L : am_L) {v : Int32} (hh : fX9_hasMan_war am_N 1900 a1 I L = some (v, I, L)) (hb : v = 0 ∨ (¬ v = 0 ∧ (a2.toInt < 0 ∨ 9 ≤ a2.toInt))) (D : va_G) (G : am_G) (a : Nat → Nat) (sz : Nat) :
    vx_Met l yX11_man (am_wd yX11_man cX11_man 3 (some .int)) ({ frames := 1903, cells := 1, slots := 6, locals := 40 * 1903 }) (nsP D G a sz [.ref 0, .int a1, .int a2] (KC al) (RC al) I L) (fun _ _ _ _ => False) (nsQ D G (va_A (am_ws G a (KC al) (RC al) I L) sz) a (KC al) (RC al) I L) 1 6 (va_A (am_ws G a (KC al) (RC al) I L) sz) := by
  refine vx_ofW (cc := cX11_man) (maxL := 3) (ret := some .int) plX11 rfl ?_
  intro p e s m args below meth c s₁ B hml hex hv
  obtain ⟨rfl, hsz, hP, hK, hD0, hE, hT⟩ := hv
  have hts0 := atoms_spec (ws := am_wd yX11_man cX11_man 3 (some .int)) B.pre
  have hts : ∀ w ∈ am_gd, w.before _ s = true := fun w hw => hts0 w (List.mem_cons_of_mem _ hw)
  subst hsz
  have hD := hD0.self (sz := s.heap.size)
  have hl := lv_entry (([.ref 0, .int a1, .int a2] : List Value).map (am_v a)) (n := 3) (by rw [am_sl]; exact Nat.le_of_ble_eq_true rfl)
  rw [lg_entry_eq]
  generalize (lg_sl (([.ref 0, .int a1, .int a2] : List Value).map (am_v a)) ++ List.replicate (3 - (lg_sl (([.ref 0, .int a1, .int a2] : List Value).map (am_v a))).length) Slot.unset).toArray = ls at hl ⊢
  have hl2 : am_has ls c.maxLocals a (am_en [.ref 0, .int a1, .int a2]) := ⟨hl.1.trans hml.symm, hl.2.1, fun i v hi => by
    have := hl.2.2 _ (am_en_at a _ 0 i v hi)
    simpa using this⟩
  have hown : s.vm.findClass RX11 = some m.cls := findClass_of_methodNamed B.named
  have hc : am_ok (p, l, e, (headSpec (am_wd yX11_man cX11_man 3 (some .int)) { frames := 1903, cells := 1, slots := 6, locals := 40 * 1903 }).room, s, m, (([.ref 0, .int a1, .int a2] : List Value).map (am_v a)).toArray, below, meth, c, D, G, va_A (am_ws G a (KC al) (RC al) I L) s.heap.size, a, (fun _ => True), 1, 6) cX11_man yX11_man 3 (some .int) 1903 1 6 :=
    ⟨B.exec, B.bytes, hown, hts, B.returns, B.notSynchronized, hK, fun q hq => Or.inr hq, Nat.le_refl _, Nat.le_refl _, ⟨rfl, rfl, Nat.le_refl _, Nat.le_refl _⟩, hml, (name_of_methodNamed B.named B.method).1, hE, fun _ _ => trivial⟩
  obtain ⟨hT1, hT2, ⟨sa, hT3⟩, ⟨sb, hT4⟩, hT5⟩ := hT
  have hx9 : ∀ (a' : Nat → Nat) (H : Heap) (locs : List Loc), (∀ k, True → a' k = a k) → va_P D vwCl (am_ws G a' (KC al) (RC al) I L) H → va_D (va_A (am_ws G a (KC al) (RC al) I L) s.heap.size) (am_ws G a' (KC al) (RC al) I L) → va_S (va_A (am_ws G a (KC al) (RC al) I L) s.heap.size) s.heap H locs → ∀ t : State, s.vm.Alike t.vm → H.size ≤ t.heap.size → (∀ q : Nat, q < H.size → t.heap[q]? = H[q]?) → nsQ D G (va_A (am_ws G a (KC al) (RC al) I L) s.heap.size) a (KC al) (RC al) I L nsE s t := by
    intro a' H locs q1 hP' hD' hS t hal hle hq
    refine ⟨rfl, ⟨a', (none, KC al, RC al, I, L), rfl, q1, rfl, fun k q hk => (hP' k q hk).kept (hq q.1 (hP' k q hk).lt), va_K.moved hal hK, hD'⟩, Nat.le_trans hS.1 hle, fun q g1 g2 => ?_⟩
    rw [hq q (Nat.lt_of_lt_of_le g1 hS.1)]
    exact hS.2.1 q g1 g2
  have kA := am_mem 1404 kn_1404 rfl
  have kB := am_mem 139 kn_139 rfl
  refine wX11_man (Q := vx_MQ below (fun _ _ _ _ => False) (nsQ D G (va_A (am_ws G a (KC al) (RC al) I L) s.heap.size) a (KC al) (RC al) I L) (([.ref 0, .int a1, .int a2] : List Value).map (am_v a)).toArray s 1 6 (va_A (am_ws G a (KC al) (RC al) I L) s.heap.size)) (by omega) hc a1 a2 I L hh hb ?_ ?_ a s.heap ls [] (fun _ _ => rfl) hP hD va_S.rf hl2
  · intro a' H ls locs q1 hP' hD' hS hl
    exact am_throw (rest := []) B.exec B.bytes hst hown (hts _ kA) (hts _ kB) hT3 (nsWt hts hT5) hT1 hT2 hS hl.1 dX11_man_11 dX11_man_14 dX11_man_15 dX11_man_17 dX11_man_20 (fun z hz => (hex z hz).elim) (by show 5 < 1903; omega) (by show 0 + 82 ≤ 40 * 1903; omega) (Nat.le_refl _) (Nat.le_refl _) B.notSynchronized (hx9 a' H locs q1 hP' hD' hS) hS.2.2 (Nat.le_refl _) (Nat.le_refl _)
  · intro a' H ls locs q1 hP' hD' hS hl
    exact am_throw (rest := []) B.exec B.bytes hst hown (hts _ kA) (hts _ kB) hT4 (nsWt hts hT5) hT1 hT2 hS hl.1 dX11_man_176 dX11_man_179 dX11_man_180 dX11_man_182 dX11_man_185 (fun z hz => (hex z hz).elim) (by show 5 < 1903; omega) (by show 0 + 82 ≤ 40 * 1903; omega) (Nat.le_refl _) (Nat.le_refl _) B.notSynchronized (hx9 a' H locs q1 hP' hD' hS) hS.2.2 (Nat.le_refl _) (Nat.le_refl _)
