/-! THE LAW'S OWN man(x, p0, p1, out): it catches what man throws -/
def KX (al : Bool) : List am_k := KC al ++ [.inr (1, 1)]
theorem am_ofWH {l : Launch} {y : MethodName} {ws ws' : List Cond} {rm : Room} {Pc : Array Value → State → Prop} {Qc : Array Value → State → Outcome → State → Prop} {mc ms : Nat} {free : Addr → Prop} {cc : ByteArray} {maxL : Nat} {ret : Option FieldType} {hh : List (Nat × Nat × Nat × Nat)}
    (hy : plainFor y = true) (hw : ws = Cond.codeWith y cc maxL ret hh :: ws')
    (body : ∀ p e s m args below meth c s₁, BodyLoose p l y (headSpec ws rm) cc maxL ret e s m args below meth c s₁ → c.maxLocals = maxL → c.exceptionTable.toList = tableOf hh → Pc args s →
      W p l e (headSpec ws rm).room s m args below meth c s.heap [] 0 0 (MQ below Qc args s mc ms free) (entryFrame m args maxL)) : Met l y ws rm Pc Qc mc ms free := by
  refine MetFree.of_bodySF (code := cc) (maxLocals := maxL) (ret := ret) hy ?_ ?_
  · intro args s m h hn
    obtain ⟨m9, meth, c, hn9, h1, h2, h3, h4, -, h5, h6, -⟩ := Cond.codeWith_spec (atoms_spec (ws := ws) h _ (by rw [hw]; exact List.mem_cons_self))
    cases hn.symm.trans hn9
    exact ⟨meth, c, h1, h2, h3, h4, h5, h6⟩
  · intro p e s m args below meth c s₁ B hml hP _
    have hh0 : s₁.heap = s.heap := by rw [B.state]; rfl
    have ht := vx_table (x := y) B (atoms_spec (ws := ws) B.pre _ (by rw [hw]; exact List.mem_cons_self))
    obtain ⟨t, a1, o, b1, b2, b3⟩ := body p e s m args below meth c s₁ B hml ht hP s₁ hh0 (Stand.of_body B)
    exact ⟨t, o, a1, b1, b2, ⟨b3.1, b3.2⟩⟩
section AMF
variable {x : am_X} {Q : State → Prop} {cc : ByteArray} {y : MethodName} {nL : Nat} {ret : Option FieldType} {dd mc ms pc : Nat} {lv : List (Option Value)} {st : List Value} {ks : List am_k} {R : am_R} {I : am_I} {L : am_L} {nc ns : Nat}
/-- a call of one that knows all cells but the last, and changes nothing -/
theorem j_callF (hc : am_ok x cc y nL ret dd mc ms) {y' : MethodName} {cc' : ByteArray} {n' : Nat} {ret' : Option FieldType} {d' i : Nat} {As : List Value} {st0 : List Value} {d9 : am_k} {t ci N : Nat} {T : u_T} {ts : List Nat} {v : Int32} (hd : decode cc pc = .ok (.invokevirtual i, 3)) (hw : Cond.methodLink y.cls i y' ∈ am_gd) (hmv : am_mv y' cc' n' ret' As.length) (hk : ks[t]? = some (.inl (ci, ts))) (hcl : vwCl[ci]? = some (y'.cls, T, N)) (hst : As.reverse ++ .ref t :: st = st0) (hdd : d' + 1 ≤ dd) (hn' : n' ≤ 21) (hcat : (st.map fun v => v.category).sum ≤ 8) (hnc : nc ≤ mc ∧ ns ≤ ms)
    (hM : am_C x.2.1 y' cc' n' ret' d' (.ref t :: As) ks R I L (some (.int v)) I L) (k : am_JQ x Q (pc + 3) lv (.int v :: st) (ks ++ [d9]) R I L nc ns) : am_JQ x Q pc lv st0 (ks ++ [d9]) R I L nc ns := by
  obtain ⟨p, l, e, Rm, s, m, args, below, meth, c, D, G, A, a0, k0, mc9, ms9⟩ := x
  obtain ⟨hx, hb, hown, hts, hr, hlocks, hK, hA, hfr, hlo, hm, hml, hnm, hE, hk9⟩ := hc
  intro a H ls locs h1 hP hD hS hl
  obtain ⟨hcd, hin, hsel, hini, hds⟩ := hmv
  have hC := hM D G a H.size
  rw [am_ws_app] at hP hD
  have hP1 := am_Pl hP
  have hD1 := am_Dl hD
  have hFc : ∀ q, va_A (am_ws G a ks R I L) H.size q → A q := fun q h => h.elim (fun ⟨k, e, h⟩ => hD1.2 k (q, e) h) (fun h => hA q (Nat.le_trans hS.1 h))
  subst hst
  refine am_run (va_runV (n := As.length) (As := As.map (am_v a)) (rest := st.map (am_v a)) ⟨hx, hb, rfl, hown, hts⟩ hC ⟨callB_of As.length hts (fun w h => ⟨(List.mem_cons.mp h).elim (fun q => q ▸ hcd) (fun q => q), good_of_word ((List.mem_cons.mp h).elim (fun q => q ▸ rfl) (fun q => List.all_eq_true.mp am_good w q))⟩) rfl rfl rfl (hts _ hini) (hts _ hw) hds ⟨by show d' + 1 ≤ _; omega, by show 8 + (n' + 11) + 40 * d' ≤ _; omega⟩, hts _ hin, hts _ hsel⟩ ⟨fun a U g mk q => by obtain ⟨q0, q1, qP, qK, qD, qE⟩ := q; exact ⟨q0, q1, qP, va_K.moved (u := U) (U := U.calling g mk a) (Vm.Alike.refl U.vm) qK, qD, am_E_same (s := U) (U := U.calling g mk a) rfl qE⟩, va_recv hK hP1 (ci := ci) hcl (q0 := t) (am_ws_at hk), fun U hU hW => ⟨rfl, by rw [hU], by rw [hU]; exact hP1, va_K.moved hW.alike hK, hD1.weaken (fun _ _ _ _ => trivial), by rw [hU]; exact am_E_warm hW (am_E_call hS hFc (am_E_at (fun k q => h1 k (hk9 k q)) hE))⟩⟩ rfl (by simp) hl.1 (by simp [am_v]) (lv_room (by rw [List.map_map]; simpa [Function.comp_def, am_v_cat] using hcat)) hd ⟨by have := hm.2.2.1; have := hnc.1; omega, by have := hm.2.2.2; have := hnc.2; omega⟩) hS (fun q _ h => hFc q h) hFc (fun a' res9 t H1 locs1 ht hres9 h2 hP2 hD2 hS1 hk1 => ?_)
  subst hres9
  have ea : a' = a := funext fun k => h2 k trivial
  subst ea
  obtain ⟨hP3, hD3⟩ := am_join hP hD hk1 hFc (by rw [← ht]; exact hP2) hD2
  exact k a' H1 ls locs1 h1 (by rw [am_ws_app]; exact hP3) (by rw [am_ws_app]; exact hD3) hS1 hl
end AMF
theorem kX_0 (al : Bool) : (KX al)[(KC al).length]? = some (.inr (1, 1)) := by cases al <;> rfl
theorem nsTb : tableOf [(0, 10, 13, 13)] = [] ++ (tableOf [(0, 10, 13, 13)]).head (by decide) :: [] := by rfl
set_option maxHeartbeats 4000000 in
theorem sL_man (l : Launch) (hst : l.stackTraces = false) {al : Bool} (a1 a2 : Int32) (I : am_I) (L : am_L) (r : Int32) (L' : am_L)
    (hh : (∃ v, fX11_man am_N 1900 a1 a2 I L = some (v, I, L) ∧ r = 0 ∧ L' = am_uL L (KC al).length 0 v.toInt64) ∨ (∃ v, fX9_hasMan_war am_N 1900 a1 I L = some (v, I, L) ∧ (v = 0 ∨ (¬ v = 0 ∧ (a2.toInt < 0 ∨ 9 ≤ a2.toInt))) ∧ r = 1 ∧ L' = L)) (D : va_G) (G : am_G) (a : Nat → Nat) (sz : Nat) :
    Met l yL_man (Cond.codeWith yL_man cL_man 5 (some .int) [(0, 10, 13, 13)] :: am_gd) ({ frames := 1905, cells := 1, slots := 6, locals := 40 * 1905 }) (nsP D G a sz [.ref 0, .int a1, .int a2, .ref (KC al).length] (KX al) (RC al) I L) (am_Qc D G (va_A (am_ws G a (KX al) (RC al) I L) sz) a (fun _ => True) (fun S => S = (some (.int r), KX al, RC al, I, L'))) 1 6 (va_A (am_ws G a (KX al) (RC al) I L) sz) := by
  refine am_ofWH (cc := cL_man) (maxL := 5) (ret := some .int) (by decide +kernel) rfl ?_
  intro p e s m args below meth c s₁ B hml hex hv
  obtain ⟨rfl, hsz, hP, hK, hD0, hE, hT⟩ := hv
  have hts0 := atoms_spec (ws := Cond.codeWith yL_man cL_man 5 (some .int) [(0, 10, 13, 13)] :: am_gd) B.pre
  have hts : ∀ w ∈ am_gd, w.before _ s = true := fun w hw => hts0 w (List.mem_cons_of_mem _ hw)
  subst hsz
  have hD := hD0.self (sz := s.heap.size)
  have hl := lv_entry (([.ref 0, .int a1, .int a2, .ref (KC al).length] : List Value).map (am_v a)) (n := 5) (by rw [am_sl]; exact Nat.le_of_ble_eq_true rfl)
  rw [lg_entry_eq]
  generalize (lg_sl (([.ref 0, .int a1, .int a2, .ref (KC al).length] : List Value).map (am_v a)) ++ List.replicate (5 - (lg_sl (([.ref 0, .int a1, .int a2, .ref (KC al).length] : List Value).map (am_v a))).length) Slot.unset).toArray = ls at hl ⊢
  have hl2 : am_has ls c.maxLocals a (am_en [.ref 0, .int a1, .int a2, .ref (KC al).length]) := ⟨hl.1.trans hml.symm, hl.2.1, fun i v hi => by
    have := hl.2.2 _ (am_en_at a _ 0 i v hi)
    simpa using this⟩
  have hown : s.vm.findClass RL = some m.cls := findClass_of_methodNamed B.named
  obtain ⟨A, hA⟩ : ∃ A, A = va_A (am_ws G a (KX al) (RC al) I L) s.heap.size := ⟨_, rfl⟩
  obtain ⟨rm, hrm⟩ : ∃ rm, rm = (headSpec (Cond.codeWith yL_man cL_man 5 (some .int) [(0, 10, 13, 13)] :: am_gd) { frames := 1905, cells := 1, slots := 6, locals := 40 * 1905 }).room := ⟨_, rfl⟩
  have hrf : rm.frames = 1905 := by rw [hrm]; rfl
  have hrl : rm.locals = 40 * 1905 := by rw [hrm]; rfl
  have hrc : rm.cells = 1 := by rw [hrm]; rfl
  have hrs : rm.slots = 6 := by rw [hrm]; rfl
  rw [← hA] at hD hE hT ⊢
  rw [← hrm]
  have hAq : ∀ q, s.heap.size ≤ q → A q := fun q hq => by rw [hA]; exact Or.inr hq
  obtain ⟨res, hres⟩ : ∃ res : am_S → Prop, res = fun S => S = (some (.int r), KX al, RC al, I, L') := ⟨_, rfl⟩
  rw [← hres]
  have hc : am_ok (p, l, e, rm, s, m, (([.ref 0, .int a1, .int a2, .ref (KC al).length] : List Value).map (am_v a)).toArray, below, meth, c, D, G, A, a, (fun _ => True), 1, 6) cL_man yL_man 5 (some .int) 1905 1 6 :=
    ⟨B.exec, B.bytes, hown, hts, B.returns, B.notSynchronized, hK, hAq, by rw [hrf]; exact Nat.le_refl _, by rw [hrl]; exact Nat.le_refl _, ⟨rfl, rfl, by rw [hrc]; exact Nat.le_refl _, by rw [hrs]; exact Nat.le_refl _⟩, hml, (name_of_methodNamed B.named B.method).1, hE, fun _ _ => trivial⟩
  have J : am_J (p, l, e, rm, s, m, (([.ref 0, .int a1, .int a2, .ref (KC al).length] : List Value).map (am_v a)).toArray, below, meth, c, D, G, A, a, (fun _ => True), 1, 6) res 0 (am_en [.ref 0, .int a1, .int a2, .ref (KC al).length]) [] (KX al) (RC al) I L 0 0 := by
    refine j_aload_n hc dL_man_0 rfl ?_
    refine j_iconst (v := (0 : Int32)) hc dL_man_1 ci_0 ?_
    refine j_aload_n hc dL_man_2 rfl ?_
    refine j_iload_n hc dL_man_3 rfl ?_
    refine j_iload_n hc dL_man_4 rfl ?_
    rcases hh with ⟨v, h1, h2, h3⟩ | ⟨v, h1, h2, h3, h4⟩
    · refine j_callF (t := 0) (As := [.int a1, .int a2]) hc dL_man_5 (am_mem 1400 kn_1400 rfl) mX11_man (kC_0 _) clX11 rfl (by omega) (Nat.le_of_ble_eq_true rfl) (Nat.le_of_ble_eq_true rfl) ⟨Nat.zero_le _, Nat.zero_le _⟩ (qX11_man l am_N 1900 a1 a2 I L v I L h1) ?_
      refine j_i2l hc dL_man_8 ?_
      have hf : am_ck (0 : Int32) 1 (am_lt (am_uL L (KC al).length (0 : Int32).toNatClampNeg v.toInt64) (fun L => some L)) = some L' := by rw [h3]; rfl
      refine j_lastore (t := (KC al).length) hc dL_man_9 (kX_0 al) hf (fun L9 hf => ?_)
      have hf : L9 = L' := Option.some.inj hf
      subst hf
      refine j_goto (tgt := 17) hc dL_man_10 rfl ?_
      refine j_iconst (v := (0 : Int32)) hc dL_man_17 ci_0 ?_
      refine j_wide (nc' := 1) (ns' := 6) (Nat.zero_le _) (Nat.zero_le _) ?_
      exact j_ireturn hc dL_man_18 rfl (by rw [hres]; exact congrArg (fun z => (some (Value.int z), KX al, RC al, I, L9)) h2.symm) rfl
    · intro a' H ls' locs q1 hP' hD' hS hl'
      have ea : a' = a := funext fun k => q1 k trivial
      rw [ea] at hP' hD' hl' ⊢
      unfold KX at hP' hD'
      rw [am_ws_app] at hP' hD'
      have hP1 := am_Pl hP'
      have hD1 := am_Dl hD'
      have hFc : ∀ q, va_A (am_ws G a (KC al) (RC al) I L) H.size q → A q := fun q h => h.elim (fun ⟨k, e, h⟩ => hD1.2 k (q, e) h) (fun h => hAq q (Nat.le_trans hS.1 h))
      obtain ⟨hcd, hin, hsel, hini, hds⟩ := mX11_man
      have hC := bX11_man l hst (al := al) a1 a2 I L h1 h2 D G a H.size
      have hRun := vx_runV (H := H) (locs := locs) (cells := 0) (slots := 0) (R := rm) (e := e) (below := below) (meth := meth) (g := F0 m 5 ls' (([.int a2, .int a1, .ref 0, .int 0, .ref (KC al).length] : List Value).map (am_v a))) (n := 2) (As := [.int a1, .int a2]) (rest := [.int 0, .ref (a (KC al).length)]) (C := RX11) (b := a 0) ⟨B.exec, B.bytes, rfl, hown, hts⟩ hC
        ⟨callB_of 2 hts (fun w h => ⟨(List.mem_cons.mp h).elim (fun q => q ▸ hcd) (fun q => q), good_of_word ((List.mem_cons.mp h).elim (fun q => q ▸ rfl) (fun q => List.all_eq_true.mp am_good w q))⟩) rfl rfl rfl (hts _ hini) (hts _ (am_mem 1400 kn_1400 rfl)) hds ⟨by rw [hrf]; exact Nat.le_of_ble_eq_true rfl, by rw [hrl]; exact Nat.le_of_ble_eq_true rfl⟩, hts _ hin, hts _ hsel⟩
        ⟨fun a U g mk q => by obtain ⟨q0, q1, qP, qK, qD, qE, qT⟩ := q; exact ⟨q0, q1, qP, va_K.moved (u := U) (U := U.calling g mk a) (Vm.Alike.refl U.vm) qK, qD, am_E_same (s := U) (U := U.calling g mk a) rfl qE, am_T_same (s := U) (U := U.calling g mk a) rfl qT⟩, va_recv hK hP1 (ci := 11) clX11 (q0 := 0) (am_ws_at (kC_0 _)), fun U hU hW => ⟨rfl, by rw [hU], by rw [hU]; exact hP1, va_K.moved hW.alike hK, hD1.weaken (fun _ _ _ _ => trivial), by rw [hU]; exact am_E_warm hW (am_E_call hS hFc hE), by rw [hU]; exact am_T_warm hW (am_T_call hS hFc hT)⟩⟩ rfl rfl hl'.1 rfl (lv_room (Nat.le_of_ble_eq_true rfl)) dL_man_5 ⟨by rw [hrc]; exact Nat.le_refl _, by rw [hrs]; exact Nat.le_refl _⟩
      intro T hT9 X
      rcases hRun T hT9 X with ⟨v9, st₀, t, T', L9, _, _, _, _, _, hF, _⟩ | ⟨q, st₀, t, T', L9, E, ce, h0, X', hL, e1, e2, ⟨hEe, ⟨a9, res9, hr9, g1, _, g2, g3, g4⟩, hz, hk⟩, hce, hcv, hcl, st⟩
      · exact hF.elim
      · subst hEe
        subst hr9
        have ea9 : a9 = a := funext fun k => g1 k trivial
        rw [ea9] at g2 g4
        rw [h0] at hz hk
        obtain ⟨hP3, hD3⟩ := am_join (H1 := T'.heap) hP' hD' (fun q h1 h2 => by rw [e1]; exact hk q h1 h2) hFc (by rw [e1]; exact g2) g4
        have hS3 : va_S A s.heap T'.heap (locs ++ L9) := ⟨Nat.le_trans hS.1 (by rw [e1]; exact hz), fun q h1 h2 => by rw [e1, hk q (Nat.lt_of_lt_of_le h1 hS.1) (fun z => h2 (hFc q z))]; exact hS.2.1 q h1 h2, fun q hq => (List.mem_append.mp hq).elim (hS.2.2 q) (fun h => hFc _ (hL q h))⟩
        have kk : W p l e rm s m (([.ref 0, .int a1, .int a2, .ref (KC al).length] : List Value).map (am_v a)).toArray below meth c T'.heap (locs ++ L9) 1 6 (MQ below (am_Qc D G A a (fun _ => True) res) (([.ref 0, .int a1, .int a2, .ref (KC al).length] : List Value).map (am_v a)).toArray s 1 6 A) (F0 m 13 ls' [.ref q]) := by
          refine lv_astore (x := q) B.exec B.bytes dL_man_13 (am_has_lv hl') (by rw [hml]; omega) rfl (fun ls9 hl9 => ?_)
          refine lv_iconst (v := (1 : Int32)) B.exec B.bytes dL_man_15 ci_1 ?_
          exact W.iret B.exec B.bytes B.returns (fun t ht hW => ⟨⟨a, (some (.int r), KX al, RC al, I, L'), by rw [hres], fun _ _ => rfl, by rw [h3]; rfl, by rw [ht, h4]; unfold KX; rw [am_ws_app]; exact hP3, va_K.moved hW.alike hK, by rw [h4]; unfold KX; rw [am_ws_app]; exact hD3⟩, hS3.F ht⟩) hS3.2.2 dL_man_16
        have hcast : (Cond.castable nsE nsE).before (([.ref 0, .int a1, .int a2, .ref (KC al).length] : List Value).map (am_v a)).toArray s = true := hT.2.2.2.2 _ List.mem_cons_self
        obtain ⟨t2, b1, b2⟩ := vx_catch (own := RL) (name := nsE) (E := nsE) (ce := ce) (q := q) (H := T'.heap) (pc := 5) (ls := ls') (rest := [.int 0, .ref (a (KC al).length)]) hown [] _ [] (hex.trans nsTb) (fun z hz => nomatch hz) (by decide) (by decide) (hts _ (am_mem 1399 kn_1399 rfl)) hcast (by rw [e1]; exact hce) hcv hcl kk T' rfl X'
        exact ⟨t2, st.trans b1, b2⟩
  exact J a s.heap ls [] (fun _ _ => rfl) hP hD va_S.rf hl2
