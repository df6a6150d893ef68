/-! THE MACHINE: calls that may make cells. -/
section AME
variable {x : am_X} {Q : State → Prop} {cc : ByteArray} {y : MethodName} {nL : Nat} {ret : Option FieldType} {dd mc ms pc : Nat} {lv : List (Option Value)} {st : List Value} {ks : List am_k} {R : am_R} {I : am_I} {L : am_L} {nc ns : Nat}
theorem j_wide {nc' ns' : Nat} (h1 : nc ≤ nc') (h2 : ns ≤ ns') (k : am_JQ x Q pc lv st ks R I L nc' ns') : am_JQ x Q pc lv st ks R I L nc ns := by
  obtain ⟨p, l, e, Rm, s, m, args, below, meth, c, D, G, A, a0, k0, mc9, ms9⟩ := x
  intro a H ls locs q1 hP hD hS hl T hT X
  exact k a H ls locs q1 hP hD hS hl T hT (stand_widen X h1 h2)
theorem j_callEV (hc : am_ok x cc y nL ret dd mc ms) {y' : MethodName} {cc' : ByteArray} {n' : Nat} {ret' : Option FieldType} {d' mc' ms' i n : Nat} {As st0 : List Value} {t ci N : Nat} {T : u_T} {ts : List Nat} {ks' : List am_k} {R' : am_R} {I' : am_I} {L' : am_L} (hd : decode cc pc = .ok (.invokevirtual i, 3)) (hw : Cond.methodLink y.cls i y' ∈ am_gd) (hmv : am_mv y' cc' n' ret' As.length) (hk : ks[t]? = some (.inl (ci, ts))) (hcl : vwCl[ci]? = some (y'.cls, T, N)) (hst : As.reverse ++ .ref t :: st = st0) (hk8 : ∀ k, am_k0 x k → k < n ∨ 1000000 ≤ k) (hwf : am_wf n lv st = true) (hdd : d' + 1 ≤ dd) (hn' : n' ≤ 21) (hcat : (st.map fun v => v.category).sum ≤ 8) (hnc : nc + mc' ≤ mc ∧ ns + ms' ≤ ms)
    (hM : am_CA x.2.1 y' cc' n' ret' d' mc' ms' (fun k => k < n ∨ 1000000 ≤ k) (.ref t :: As) ks R I L (fun S => S = (none, ks', R', I', L'))) (k : am_JQ x Q (pc + 3) lv st ks' R' I' L' (nc + mc') (ns + ms')) : am_JQ x Q pc lv st0 ks R I L nc ns := by
  obtain ⟨p, l, e, Rm, s, m, args, below, meth, c, D, G, A, a0, k0, mc9, ms9⟩ := x
  obtain ⟨hx, hb, hown, hts, hr, hlocks, hK, hA, hfr, hlo, hm, hml, hnm, hE, hk9⟩ := hc
  simp only [am_wf, Bool.and_eq_true] at hwf
  intro a H ls locs h1 hP hD hS hl
  obtain ⟨hcd, hin, hsel, hini, hds⟩ := hmv
  have hC := hM D G a H.size
  have hFc : ∀ q, va_A (am_ws G a ks R I L) H.size q → A q := fun q h => h.elim (fun ⟨k, e, h⟩ => hD.2 k (q, e) h) (fun h => hA q (Nat.le_trans hS.1 h))
  subst hst
  refine am_run (va_runV (n := As.length) (As := As.map (am_v a)) (rest := st.map (am_v a)) ⟨hx, hb, rfl, hown, hts⟩ hC ⟨callB_of As.length hts (fun w h => ⟨(List.mem_cons.mp h).elim (fun q => q ▸ hcd) (fun q => q), good_of_word ((List.mem_cons.mp h).elim (fun q => q ▸ rfl) (fun q => List.all_eq_true.mp am_good w q))⟩) rfl rfl rfl (hts _ hini) (hts _ hw) hds ⟨by show d' + 1 ≤ _; omega, by show 8 + (n' + 11) + 40 * d' ≤ _; omega⟩, hts _ hin, hts _ hsel⟩ ⟨fun a U g mk q => by obtain ⟨q0, q1, qP, qK, qD, qE⟩ := q; exact ⟨q0, q1, qP, va_K.moved (u := U) (U := U.calling g mk a) (Vm.Alike.refl U.vm) qK, qD, am_E_same (s := U) (U := U.calling g mk a) rfl qE⟩, va_recv hK hP (ci := ci) hcl (q0 := t) (am_ws_at hk), fun U hU hW => ⟨rfl, by rw [hU], by rw [hU]; exact hP, va_K.moved hW.alike hK, hD.weaken (fun _ _ _ _ => trivial), by rw [hU]; exact am_E_warm hW (am_E_call hS hFc (am_E_at (fun k q => h1 k (hk9 k q)) hE))⟩⟩ rfl (by simp) hl.1 (by simp [am_v]) (lv_room (by rw [List.map_map]; simpa [Function.comp_def, am_v_cat] using hcat)) hd ⟨by have := hm.2.2.1; omega, by have := hm.2.2.2; omega⟩) hS (fun q _ h => hFc q h) hFc (fun a' res9 t H1 locs1 ht hres9 h2 hP1 hD1 hS1 _ => ?_)
  subst hres9
  have := k a' H1 ls locs1 (fun k hk => (h2 k (hk8 k hk)).trans (h1 k hk)) (by rw [← ht]; exact hP1) (hD1.weaken (fun k q _ h => hFc q.1 h)) hS1 (am_as_lv h2 hwf.1 hl)
  rw [am_as_st h2 hwf.2] at this
  exact this
end AME
section AMLE
variable {x : am_X} {Q : State → Prop} {cc : ByteArray} {y : MethodName} {nL : Nat} {ret : Option FieldType} {dd mc ms pc : Nat} {lv : List (Option Value)} {st : List Value} {al : Bool} {IC : am_I} {LC : am_L} {IM : am_I} {LM : am_L} {o : Int64} {nc ns : Nat}
/-- the law calls one that makes the duels' rows -/
theorem l_callCE (hc : am_ok x cc y nL ret dd mc ms) {y' : MethodName} {cc' : ByteArray} {n' : Nat} {ret' : Option FieldType} {d' mc' ms' i n : Nat} {As st0 : List Value} {ci N : Nat} {T : u_T} {ts : List Nat} {v : Int32} {I' : am_I} {L' : am_L} {ae : Bool} (hd : decode cc pc = .ok (.invokevirtual i, 3)) (hw : Cond.methodLink y.cls i y' ∈ am_gd) (hmv : am_mv y' cc' n' ret' As.length) (hk : (KC al)[0]? = some (.inl (ci, ts))) (hcl : vwCl[ci]? = some (y'.cls, T, N)) (hst : As.reverse ++ .ref 500000 :: st = st0) (hpl : As.all am_pl = true) (hk8 : 0 < n) (hdd : d' + 1 ≤ dd) (hn' : n' ≤ 21) (hcat : (st.map fun v => v.category).sum ≤ 8) (hk9' : ∀ k, am_k0 x k → 1000000 ≤ k) (hnc : nc + mc' ≤ mc ∧ ns + ms' ≤ ms)
    (hM : am_CA x.2.1 y' cc' n' ret' d' mc' ms' (fun k => k < n ∨ 1000000 ≤ k) (.ref 0 :: As) (KC al) (RC al) IC LC (fun S => S = (some (.int v), KC ae, RC ae, I', L'))) (k : am_JL x Q (pc + 3) lv (.int v :: st) ae I' L' IM LM o (nc + mc') (ns + ms')) : am_JL x Q pc lv st0 al IC LC IM LM o nc ns := by
  obtain ⟨p, l, e, Rm, s, m, args, below, meth, c, D, G, A, a0, k0, mc9, ms9⟩ := x
  obtain ⟨hx, hb, hown, hts, hr, hlocks, hK, hA, hfr, hlo, hm, hml, hnm, hE, hk9⟩ := hc
  intro a aC aM H ls locs h1 hP hD hS hl
  obtain ⟨hcd, hin, hsel, hini, hds⟩ := hmv
  have hPs : va_P D vwCl (am_ws G aC (KC al) (RC al) IC LC ++ (am_ws G aM KM RM IM LM ++ [(a 500002, .inl (G.2.1, 1, .inr (.inl (fun _ => o))))])) H := hP
  have hDs : va_D A (am_ws G aC (KC al) (RC al) IC LC ++ (am_ws G aM KM RM IM LM ++ [(a 500002, .inl (G.2.1, 1, .inr (.inl (fun _ => o))))])) := hD
  have hC := hM D G aC H.size
  have hP1 := am_Pl hPs
  have hD1 := am_Dl hDs
  have hFc : ∀ q, va_A (am_ws G aC (KC al) (RC al) IC LC) H.size q → A q := fun q h => h.elim (fun ⟨k, e, h⟩ => hD1.2 k (q, e) h) (fun h => hA q (Nat.le_trans hS.1 h))
  subst hst
  refine am_run (va_runV (n := As.length) (As := As.map (am_v aC)) (rest := st.map (am_v a)) ⟨hx, hb, rfl, hown, hts⟩ hC ⟨callB_of As.length hts (fun w h => ⟨(List.mem_cons.mp h).elim (fun q => q ▸ hcd) (fun q => q), good_of_word ((List.mem_cons.mp h).elim (fun q => q ▸ rfl) (fun q => List.all_eq_true.mp am_good w q))⟩) rfl rfl rfl (hts _ hini) (hts _ hw) hds ⟨by show d' + 1 ≤ _; omega, by show 8 + (n' + 11) + 40 * d' ≤ _; omega⟩, hts _ hin, hts _ hsel⟩ ⟨fun a U g mk q => by obtain ⟨q0, q1, qP, qK, qD, qE⟩ := q; exact ⟨q0, q1, qP, va_K.moved (u := U) (U := U.calling g mk a) (Vm.Alike.refl U.vm) qK, qD, am_E_same (s := U) (U := U.calling g mk a) rfl qE⟩, va_recv hK hP1 (ci := ci) hcl (q0 := 0) (am_ws_at hk), fun U hU hW => ⟨rfl, by rw [hU], by rw [hU]; exact hP1, va_K.moved hW.alike hK, hD1.weaken (fun _ _ _ _ => trivial), by rw [hU]; exact am_E_warm hW (am_E_call hS hFc (am_E_at (fun k q => h1.2.1 k (hk9 k q)) hE))⟩⟩ rfl (by simp) hl.1 (by simp [am_v, am_pl_l hpl, h1.2.2.2.1]) (lv_room (by rw [List.map_map]; simpa [Function.comp_def, am_v_cat] using hcat)) hd ⟨by have := hm.2.2.1; omega, by have := hm.2.2.2; omega⟩) hS (fun q _ h => hFc q h) hFc (fun a' res9 t H1 locs1 ht hres9 h2 hP2 hD2 hS1 hk1 => ?_)
  subst hres9
  obtain ⟨hP3, hD3⟩ := am_join hPs hDs hk1 hFc (by rw [← ht]; exact hP2) hD2
  exact k a a' aM H1 ls locs1 ⟨h1.1, fun k hk => (h2 k (Or.inr (hk9' k hk))).trans (h1.2.1 k hk), h1.2.2.1, (h2 0 (Or.inl hk8)).trans h1.2.2.2.1, h1.2.2.2.2⟩ hP3 hD3 hS1 hl
end AMLE
