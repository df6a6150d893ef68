/-! THE LAW CALLS ITS OWN man -/
theorem am_ws_L {G : am_G} {a : Nat → Nat} {ks : List am_k} {R : am_R} {I : am_I} {L L' : am_L} (h : ∀ k, k < ks.length → L' k = L k) : am_ws G a ks R I L' = am_ws G a ks R I L := by
  apply List.ext_getElem?
  intro i
  simp only [am_ws, List.getElem?_mapIdx]
  cases hi : ks[i]? with
  | none => rfl
  | some d =>
    have e := h i (List.getElem?_eq_some_iff.mp hi).1
    have ef : ∀ ts, am_fs a R I L' i ts = am_fs a R I L i ts := fun ts => by
      unfold am_fs am_fv
      rw [e]
    simp only [Option.map_some]
    rcases d with ⟨ci, ts⟩ | ⟨_ | _ | n, q⟩ <;> simp [am_e, ef, e]
theorem kn_115 : lw_tbl[115]? = some (Cond.initialized RL) := by decide +kernel
def aX (al : Bool) (aC : Nat → Nat) (q : Nat) : Nat → Nat := fun k => if k = (KC al).length then q else aC k
def lX (al : Bool) (LC : am_L) (o : Int64) : am_L := fun k => if k = (KC al).length then fun _ => o else LC k
def wO (G : am_G) (q : Nat) (f : Nat → Int64) : va_W := [(q, .inl (G.2.1, 1, .inr (.inl f)))]
theorem kC_len (al : Bool) : (KC al).length < 1000000 ∧ 0 < (KC al).length := by cases al <;> (constructor <;> decide)
theorem rC_len (al : Bool) : ∀ t j u, RC al t j = some u → u ≠ (KC al).length := by
  intro t j u h z
  subst z
  cases al
  · exact am_RL_ne (n := (KC false).length) (by decide) t j h
  · exact am_RL_ne (n := (KC true).length) (by decide) t j h
theorem wl_eq {G : am_G} {aC : Nat → Nat} {q : Nat} {al : Bool} {IC : am_I} {LC L9 : am_L} (hL : ∀ k, k < (KC al).length → L9 k = LC k) : am_ws G (aX al aC q) (KX al) (RC al) IC L9 = am_ws G aC (KC al) (RC al) IC LC ++ wO G q (L9 (KC al).length) := by
  unfold KX
  rw [am_ws_app, am_ws_as (a := aC) (a' := aX al aC q) (fun k hk => if_neg (by omega)) (fun t j u h => if_neg (rC_len al t j u h)), am_ws_L hL]
  congr 1
  show [(aX al aC q (KC al).length, am_e G (aX al aC q) (RC al) IC L9 (KC al).length (.inr (1, 1)))] = _
  rw [show aX al aC q (KC al).length = q from if_pos rfl]
  rfl
theorem vp_cell1 {c : ClassId} {f g : Nat → Int64} (h : g 0 = f 0) : vp_cell c (1, .inr (.inl g)) = vp_cell c (1, .inr (.inl f)) := by
  show arrV c 1 (fun j => Value.long (g j)) = arrV c 1 (fun j => Value.long (f j))
  unfold arrV
  simp [h]
theorem wO_P {D : va_G} {cl : List vw_C} {H : Heap} {G : am_G} {q : Nat} {f g : Nat → Int64} (h : g 0 = f 0) (hP : va_P D cl (wO G q f) H) : va_P D cl (wO G q g) H := by
  intro k z hk
  have h0 : H[q]? = some (vp_cell G.2.1 (1, .inr (.inl f))) := hP 0 (q, .inl (G.2.1, 1, .inr (.inl f))) rfl
  match k, hk with
  | 0, hk =>
    have hk : (q, Sum.inl (G.2.1, 1, Sum.inr (Sum.inl g))) = z := Option.some.inj hk
    subst hk
    show H[q]? = some (vp_cell G.2.1 (1, .inr (.inl g)))
    rw [vp_cell1 h]
    exact h0
  | k + 1, hk => simp [wO] at hk
theorem wO_D {A : Nat → Prop} {G : am_G} {q : Nat} {f : Nat → Int64} (h : A q) : va_D A (wO G q f) := by
  refine ⟨fun i j p r hi hj _ => ?_, fun k z hk => ?_⟩
  · have h1 := (List.getElem?_eq_some_iff.mp hi).1
    have h2 := (List.getElem?_eq_some_iff.mp hj).1
    simp [wO] at h1 h2
    omega
  · match k, hk with
    | 0, hk =>
      have hk : (q, Sum.inl (G.2.1, 1, Sum.inr (Sum.inl f))) = z := Option.some.inj hk
      subst hk
      exact h
    | k + 1, hk => simp [wO] at hk
theorem wO_at {G : am_G} {q : Nat} {f : Nat → Int64} {j : Nat} {z : Nat × va_E} (h : (wO G q f)[j]? = some z) : z.1 = q := by
  match j, h with
  | 0, h => have h : (q, Sum.inl (G.2.1, 1, Sum.inr (Sum.inl f))) = z := Option.some.inj h; rw [← h]
  | j + 1, h => simp [wO] at h
/-- class, out, model -/
theorem wl_P {D : va_G} {cl : List vw_C} {H : Heap} {w1 w2 w3 : va_W} (h : va_P D cl (w1 ++ (w2 ++ w3)) H) : va_P D cl ((w1 ++ w3) ++ w2) H := (va_P.app (va_P.app (am_Pl h) (am_Pl (am_comm (am_Pl (am_comm h))))) (am_Pl (am_Pl (am_comm h))))
theorem wl_D {A : Nat → Prop} {w1 w2 w3 : va_W} (h : va_D A (w1 ++ (w2 ++ w3))) : va_D A ((w1 ++ w3) ++ w2) := by
  have d1 := am_Dl h
  have d23 := am_Dr h
  have x1 : ∀ (i j : Nat) (p q : Nat × va_E), w1[i]? = some p → w3[j]? = some q → p.1 ≠ q.1 := fun i j p q hi hj => am_Dx h i (w2.length + j) p q hi (by rw [List.getElem?_append_right (by omega), Nat.add_sub_cancel_left]; exact hj)
  have x2 : ∀ (i j : Nat) (p q : Nat × va_E), w1[i]? = some p → w2[j]? = some q → p.1 ≠ q.1 := fun i j p q hi hj => am_Dx h i j p q hi (by rw [List.getElem?_append_left (List.getElem?_eq_some_iff.mp hj).1]; exact hj)
  refine (d1.app (am_Dr d23) x1).app (am_Dl d23) (fun i j p q hi hj => ?_)
  rcases List.mem_append.mp (List.mem_of_getElem? hi) with z | z
  · obtain ⟨i', hi'⟩ := List.getElem?_of_mem z
    exact x2 i' j p q hi' hj
  · obtain ⟨i', hi'⟩ := List.getElem?_of_mem z
    exact fun e => am_Dx d23 j i' q p hj hi' e.symm
section AMM
variable {x : am_X} {Q : State → Prop} {lv : List (Option Value)} {st : List Value} {al : Bool} {IC : am_I} {LC : am_L} {IM : am_I} {LM : am_L} {o : Int64} {nc ns : Nat}
/-- what is known of the start for man's throws -/
def am_ct (x : am_X) : Prop := match x with
  | (_, _, _, _, s, _, _, _, _, _, _, _, A, _, _, _, _) => am_T A s s.heap
set_option maxHeartbeats 2000000 in
theorem l_man (hc : am_ok x cL_law yL_law 7 (some .boolean) 2048 601024 7293034) (hct : am_ct x) (hst : x.2.1.stackTraces = false) {a1 a2 r : Int32} {L9 : am_L} {o' : Int64} (ho : o' = L9 (KC al).length 0) (hL9 : ∀ k, k < (KC al).length → L9 k = LC k) (hcat : (st.map fun v => v.category).sum ≤ 8) (hnc : nc + 1 ≤ 601024 ∧ ns + 6 ≤ 7293034)
    (hh : (∃ v, fX11_man am_N 1900 a1 a2 IC (lX al LC o) = some (v, IC, lX al LC o) ∧ r = 0 ∧ L9 = am_uL (lX al LC o) (KC al).length 0 v.toInt64) ∨ (∃ v, fX9_hasMan_war am_N 1900 a1 IC (lX al LC o) = some (v, IC, lX al LC o) ∧ (v = 0 ∨ (¬ v = 0 ∧ (a2.toInt < 0 ∨ 9 ≤ a2.toInt))) ∧ r = 1 ∧ L9 = lX al LC o))
    (k : am_JL x Q 401 lv (.int r :: st) al IC LC IM LM o' (nc + 1) (ns + 6)) : am_JL x Q 398 lv (.ref 500002 :: .int a2 :: .int a1 :: .ref 500000 :: st) al IC LC IM LM o nc ns := by
  obtain ⟨p, l, e, Rm, s, m, args, below, meth, c, D, G, A, a0, k0, mc9, ms9⟩ := x
  obtain ⟨hx, hb, hown, hts, hr, hlocks, hK, hA, hfr, hlo, hm, hml, hnm, hE, hk9⟩ := hc
  have hT : am_T A s s.heap := hct
  intro a aC aM H ls locs h1 hP hD hS hl
  have kl := kC_len al
  have hL0 : ∀ k, k < (KC al).length → lX al LC o k = LC k := fun k hk => if_neg (by omega)
  have ew := wl_eq (G := G) (aC := aC) (q := a 500002) (IC := IC) hL0
  have hn0 : lX al LC o (KC al).length = fun _ => o := if_pos rfl
  rw [hn0] at ew
  have hPs : va_P D vwCl (am_ws G (aX al aC (a 500002)) (KX al) (RC al) IC (lX al LC o) ++ am_ws G aM KM RM IM LM) H := by rw [ew]; exact wl_P hP
  have hDs : va_D A (am_ws G (aX al aC (a 500002)) (KX al) (RC al) IC (lX al LC o) ++ am_ws G aM KM RM IM LM) := by rw [ew]; exact wl_D hD
  have hC := sL_man l hst (al := al) a1 a2 IC (lX al LC o) r L9 hh D G (aX al aC (a 500002)) H.size
  have hP1 := am_Pl hPs
  have hD1 := am_Dl hDs
  have hFc : ∀ q, va_A (am_ws G (aX al aC (a 500002)) (KX al) (RC al) IC (lX al LC o)) H.size q → A q := fun q h => h.elim (fun ⟨k, e, h⟩ => hD1.2 k (q, e) h) (fun h => hA q (Nat.le_trans hS.1 h))
  have hcw : Cond.codeWith yL_man cL_man 5 (some .int) [(0, 10, 13, 13)] ∈ am_gd := am_mem 1398 kn_1398 rfl
  have hlen : (parseMethodDescriptor yL_man.desc).map (fun d => d.parameters.length) = some 4 := by decide +kernel
  refine am_run (vx_runSW (n := 4) (As := ([.ref 0, .int a1, .int a2, .ref (KC al).length] : List Value).map (am_v (aX al aC (a 500002)))) (rest := st.map (am_v a)) (hh := [(0, 10, 13, 13)]) (bytes := cL_man) (maxL := 5) (ret := some .int) (index := 38) ⟨hx, hb, rfl, hown, hts⟩ hC ⟨⟨rfl, rfl, by show 1905 + 1 ≤ _; omega, by show 8 + (5 + 11) + 40 * 1905 ≤ _; omega, fun w h a' U hW => word_at hW (good_of_word ((List.mem_cons.mp h).elim (fun q => q ▸ rfl) (fun q => List.all_eq_true.mp am_good w q))) ((List.mem_cons.mp h).elim (fun q => q ▸ hts _ hcw) (fun q => hts w q)), List.mem_cons_self⟩, hts _ hcw, hts _ (am_mem 115 kn_115 rfl), by decide, fun sig h => by rw [h] at hlen; exact (Option.some.inj hlen).symm, hts _ (am_mem 1396 kn_1396 rfl), hts _ (am_mem 1397 kn_1397 rfl)⟩ ⟨fun a U g mk q => by obtain ⟨q0, q1, qP, qK, qD, qE, qT⟩ := q; exact ⟨q0, q1, qP, va_K.moved (u := U) (U := U.calling g mk a) (Vm.Alike.refl U.vm) qK, qD, am_E_same (s := U) (U := U.calling g mk a) rfl qE, am_T_same (s := U) (U := U.calling g mk a) rfl qT⟩, fun U hU hW => ⟨rfl, by rw [hU], by rw [hU]; exact hP1, va_K.moved hW.alike hK, hD1.weaken (fun _ _ _ _ => trivial), by rw [hU]; exact am_E_warm hW (am_E_call hS hFc (am_E_at (fun k q => (if_neg (by omega) : aX al aC (a 500002) k = aC k).trans (h1.2.1 k (hk9 k q))) hE)), by rw [hU]; exact am_T_warm hW (am_T_call hS hFc hT)⟩⟩ rfl (by simp) hl.1 ?_ (lv_room (by rw [List.map_map]; simpa [Function.comp_def, am_v_cat] using hcat)) dL_law_398 ⟨by have := hm.2.2.1; omega, by have := hm.2.2.2; omega⟩) hS (fun q _ h => hFc q h) hFc (fun a' res9 t H1 locs1 ht hres9 h2 hP2 hD2 hS1 hk1 => ?_)
  · show am_v a (.ref 500002) :: Value.int a2 :: Value.int a1 :: am_v a (.ref 500000) :: st.map (am_v a) = _
    have e1 : aX al aC (a 500002) (KC al).length = a 500002 := if_pos rfl
    have e2 : aX al aC (a 500002) 0 = a 500000 := (if_neg (by omega) : aX al aC (a 500002) 0 = aC 0).trans h1.2.2.2.1
    simp [am_v, e1, e2]
  · subst hres9
    have ea : a' = aX al aC (a 500002) := funext fun k => h2 k trivial
    subst ea
    have e9 := wl_eq (G := G) (aC := aC) (q := a 500002) (IC := IC) hL9
    obtain ⟨hP3, hD3⟩ := am_join hPs hDs hk1 hFc (by rw [← ht]; exact hP2) hD2
    have hP3 : va_P D vwCl (am_ws G (aX al aC (a 500002)) (KX al) (RC al) IC L9 ++ am_ws G aM KM RM IM LM) H1 := hP3
    have hD3 : va_D A (am_ws G (aX al aC (a 500002)) (KX al) (RC al) IC L9 ++ am_ws G aM KM RM IM LM) := hD3
    rw [e9, List.append_assoc] at hP3 hD3
    have hP4 := wl_P hP3
    have hD4 := wl_D hD3
    rw [List.append_assoc] at hP4 hD4
    refine k a aC aM H1 ls locs1 h1 ?_ ?_ hS1 hl
    · show va_P D vwCl (am_ws G aC (KC al) (RC al) IC LC ++ (am_ws G aM KM RM IM LM ++ wO G (a 500002) (fun _ => o'))) H1
      refine va_P.app (am_Pl hP4) (va_P.app (am_Pl (am_Pl (am_comm hP4))) (wO_P (f := L9 (KC al).length) ho (am_Pl (am_comm (am_Pl (am_comm hP4))))))
    · show va_D A (am_ws G aC (KC al) (RC al) IC LC ++ (am_ws G aM KM RM IM LM ++ wO G (a 500002) (fun _ => o')))
      have d23 := am_Dr hD4
      have aq : A (a 500002) := (am_Dr d23).2 0 _ rfl
      refine (am_Dl hD4).app ((am_Dl d23).app (wO_D aq) (fun i j p q hi hj => ?_)) (fun i j p q hi hj => ?_)
      · rw [wO_at hj]
        exact am_Dx d23 i 0 p (a 500002, .inl (G.2.1, 1, .inr (.inl (L9 (KC al).length)))) hi rfl
      · rcases List.mem_append.mp (List.mem_of_getElem? hj) with z | z
        · obtain ⟨j', hj'⟩ := List.getElem?_of_mem z
          exact am_Dx hD4 i j' p q hi (by rw [List.getElem?_append_left (List.getElem?_eq_some_iff.mp hj').1]; exact hj')
        · obtain ⟨j', hj'⟩ := List.getElem?_of_mem z
          rw [wO_at hj']
          exact am_Dx hD4 i ((am_ws G aM KM RM IM LM).length + 0) p (a 500002, .inl (G.2.1, 1, .inr (.inl (L9 (KC al).length)))) hi (by rw [List.getElem?_append_right (by omega), Nat.add_sub_cancel_left]; rfl)
end AMM
