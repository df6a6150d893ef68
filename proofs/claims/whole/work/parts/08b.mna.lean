theorem vr_outer (c : ClassId) (N h0 : Nat) : ∀ i : Nat, Jvm.Free.Multi.outerC c N h0 i = arrV c N (fun j => va_rf (if j < i then some (h0 + 1 + j) else none))
  | 0 => by
    show ({ cls := c, slots := Array.replicate N .null, vm := .none } : Cell) = _
    rw [arrV_new]
    refine congrArg (arrV c N) (funext fun j => ?_)
    simp [va_rf]
  | i + 1 => by
    show (Jvm.Free.Multi.outerC c N h0 i).setSlot i (.ref (h0 + 1 + i)) = _
    rw [vr_outer c N h0 i, arrV_store]
    refine congrArg (arrV c N) (funext fun j => ?_)
    by_cases e : j = i
    · subst e
      simp [updV, va_rf]
    · by_cases h : j < i
      · simp [updV, e, h, Nat.lt_succ_of_lt h]
      · simp [updV, e, h, show ¬ j < i + 1 by omega]
/-- new int[4][240] -/
theorem j_mna {x : am_X} {Q : State → Prop} {cc : ByteArray} {y : MethodName} {nL : Nat} {ret : Option FieldType} {dd mc ms pc : Nat} {lv : List (Option Value)} {st : List Value} {ks : List am_k} {lr : List (Nat × Nat × Nat)} {I : am_I} {L : am_L} {nc ns : Nat} (hc : am_ok x cc y nL ret dd mc ms) {i n : Nat} (hd : decode cc pc = .ok (.multianewarray i 2, 4)) (hn : ks.length = n) (hw : Cond.classLink y.cls i "[[I" ∈ am_gd) (hw2 : Cond.arrayClass .int ∈ am_gd) (hI : ∀ k, n ≤ k → I k = fun _ => 0) (hR : lr.all (fun q => !(q.1 == n) && Nat.blt q.2.2 n && Nat.blt q.1 n) = true) (hk8 : ∀ k, am_k0 x k → k < n ∨ 1000000 ≤ k) (hn9 : n < 900000) (hwf : am_wf n lv st = true) (hnc : nc + 5 ≤ mc ∧ ns + 964 ≤ ms)
    (k : am_JQ x Q (pc + 4) lv (.ref n :: st) (ks ++ [.inr (2, 4)] ++ [.inr (0, 240)] ++ [.inr (0, 240)] ++ [.inr (0, 240)] ++ [.inr (0, 240)]) (am_RL ((n, 3, n + 4) :: (n, 2, n + 3) :: (n, 1, n + 2) :: (n, 0, n + 1) :: lr)) I L (nc + 5) (ns + 964)) : am_JQ x Q pc lv (.int 240 :: .int 4 :: st) ks (am_RL lr) I L nc ns := by
  obtain ⟨p, l, e, Rm, s, m, args, below, meth, c, D, G, A, a0, k0, mc9, ms9⟩ := x
  obtain ⟨hx, hb, hown, hts, hr, hlocks, hK, hA, hfr, hlo, hm, hml, hnm, hE, hk9⟩ := hc
  simp only [am_wf, Bool.and_eq_true] at hwf
  intro a H ls locs h1 hP hD hS hl
  intro T hT X
  have hmc := hm.2.2.1
  have hms := hm.2.2.2
  obtain ⟨vm₁, cA, comp, -, fA, fC, hO, hIn, X', step⟩ := X.multianewarray2F (ty := .int) hx hown (hts _ hw) (show _ from hE.2.2.2.2.2.2.2.2) (hts _ hw2) (g := F0 m pc ls (.int 240 :: .int 4 :: st.map (am_v a))) rfl (by rw [hb]; exact hd) rfl (by decide) (by decide) (by decide) (by decide) (by decide) rfl rfl (by show nc + (1 + 4) ≤ _; omega) (by show ns + (4 + 4 * 240) ≤ _; omega)
  have eA : cA = G.2.2 := Option.some.inj (fA.symm.trans (hK.2 2 _ rfl).2)
  have eC : comp = G.1 := Option.some.inj (fC.symm.trans (hK.2 0 _ rfl).2)
  subst eA; subst eC
  have hT2 : (T.setVm vm₁).heap = H := hT
  obtain ⟨f1, f2, -, -⟩ := Jvm.Free.Multi.fill_facts (T.setVm vm₁) G.2.2 G.1 4 240 (defaultValue .int) 4
  have f3 := fun (q : Nat) (hq : q < (T.setVm vm₁).heap.size) => Jvm.Free.Multi.fill_old (T.setVm vm₁) G.2.2 G.1 4 240 (defaultValue .int) (a := q) hq 4
  have f4 := fun (j : Nat) (hj : j < 4) => Jvm.Free.Multi.fill_inner (T.setVm vm₁) G.2.2 G.1 4 240 (defaultValue .int) 4 j hj
  rw [hT2] at f1 f2 f3 f4
  rw [vr_outer] at f2
  change Stand p l e Rm s m args below meth c (Jvm.Free.Multi.fill (T.setVm vm₁) G.2.2 G.1 4 240 (defaultValue .int) 4) locs (nc + 1 + 4) (ns + 4 + 4 * 240) at X'
  change ∀ target, Steps p.tables e below ((Jvm.Free.Multi.fill (T.setVm vm₁) G.2.2 G.1 4 240 (defaultValue .int) 4).setTop { F0 m pc ls (.int 240 :: .int 4 :: st.map (am_v a)) with pc := pc + 4, stack := .ref T.heap.size :: st.map (am_v a) }) target → _ at step
  generalize hF : Jvm.Free.Multi.fill (T.setVm vm₁) G.2.2 G.1 4 240 (defaultValue .int) 4 = F at f1 f2 f3 f4 X' step
  have ha : ∀ k, (k < n ∨ 1000000 ≤ k) → am_as a n H.size 5 k = a k := fun k hk => by
    unfold am_as
    rw [if_neg (by omega)]
  have hnj : ∀ j, j < 5 → am_as a n H.size 5 (n + j) = H.size + j := fun j hj => by
    unfold am_as
    rw [if_pos (by omega)]
    omega
  have hlr : ∀ t j u, am_RL lr t j = some u → t < n ∧ u < n := fun t j u h => by
    simp only [am_RL, Option.map_eq_some_iff] at h
    obtain ⟨q, hq, e⟩ := h
    have h1 := List.all_eq_true.mp hR q (List.mem_of_find?_eq_some hq)
    have h2 := List.find?_some hq
    simp only [Bool.and_eq_true, Nat.blt_eq, beq_iff_eq] at h1 h2
    omega
  have hRo : ∀ t, t ≠ n → am_RL ((n, 3, n + 4) :: (n, 2, n + 3) :: (n, 1, n + 2) :: (n, 0, n + 1) :: lr) t = am_RL lr t := fun t ht => by
    funext j
    have hb : (n == t) = false := beq_eq_false_iff_ne.mpr (fun e => ht e.symm)
    simp [am_RL, List.find?, hb]
  have hRn : (fun j => (am_RL ((n, 3, n + 4) :: (n, 2, n + 3) :: (n, 1, n + 2) :: (n, 0, n + 1) :: lr) n j).map (am_as a n H.size 5)) = fun j => if j < 4 then some (H.size + 1 + j) else none := by
    funext j
    match j with
    | 0 => simp [am_RL, List.find?]; exact hnj 1 (by decide)
    | 1 => simp [am_RL, List.find?]; have := hnj 2 (by decide); omega
    | 2 => simp [am_RL, List.find?]; have := hnj 3 (by decide); omega
    | 3 => simp [am_RL, List.find?]; have := hnj 4 (by decide); omega
    | j + 4 =>
      have e0 : am_RL lr n (j + 4) = none := by
        cases h : am_RL lr n (j + 4) with
        | none => rfl
        | some u => have := (hlr _ _ _ h).1; omega
      have e1 : am_RL ((n, 3, n + 4) :: (n, 2, n + 3) :: (n, 1, n + 2) :: (n, 0, n + 1) :: lr) n (j + 4) = am_RL lr n (j + 4) := by
        have b3 : (3 == j + 4) = false := beq_eq_false_iff_ne.mpr (by omega)
        have b2 : (2 == j + 4) = false := beq_eq_false_iff_ne.mpr (by omega)
        have b1 : (1 == j + 4) = false := beq_eq_false_iff_ne.mpr (by omega)
        have b0 : (0 == j + 4) = false := beq_eq_false_iff_ne.mpr (by omega)
        simp [am_RL, List.find?, b0, b1, b2, b3]
      rw [e1, e0]
      simp
  have ews : am_ws G (am_as a n H.size 5) (ks ++ [.inr (2, 4)] ++ [.inr (0, 240)] ++ [.inr (0, 240)] ++ [.inr (0, 240)] ++ [.inr (0, 240)]) (am_RL ((n, 3, n + 4) :: (n, 2, n + 3) :: (n, 1, n + 2) :: (n, 0, n + 1) :: lr)) I L = am_ws G a ks (am_RL lr) I L ++ (List.range 5).map (fun j => (H.size + j, (if j = 0 then .inl (G.2.2, 4, .inr (.inr (.inr (.inr (fun j => if j < 4 then some (H.size + 1 + j) else none))))) else .inl (G.1, 240, .inl (fun _ => 0)) : va_E))) := by
    have e0 : am_ws G (am_as a n H.size 5) ks (am_RL ((n, 3, n + 4) :: (n, 2, n + 3) :: (n, 1, n + 2) :: (n, 0, n + 1) :: lr)) I L = am_ws G a ks (am_RL lr) I L := by
      apply List.ext_getElem?
      intro i
      simp only [am_ws, List.getElem?_mapIdx]
      cases hi : ks[i]? with
      | none => rfl
      | some d =>
        have hlt := (List.getElem?_eq_some_iff.mp hi).1
        have hne : i ≠ n := by omega
        simp only [Option.map_some]
        rw [ha i (Or.inl (by omega))]
        congr 2
        rw [am_e_as (a := a) (fun j u h => by rw [hRo i hne] at h; exact ha u (Or.inl (hlr i j u h).2))]
        rcases d with ⟨ci, ts⟩ | ⟨_ | _ | d, q⟩ <;> simp [am_e, am_fs, am_fv, hRo i hne]
    simp only [am_ws_app, List.length_append, List.length_cons, List.length_nil, hn, e0]
    rw [show am_as a n H.size 5 n = H.size + 0 from hnj 0 (by decide), show am_as a n H.size 5 (n + (0 + 1)) = H.size + 1 from hnj 1 (by decide), show am_as a n H.size 5 (n + (0 + 1) + (0 + 1)) = H.size + 2 from hnj 2 (by decide), show am_as a n H.size 5 (n + (0 + 1) + (0 + 1) + (0 + 1)) = H.size + 3 from hnj 3 (by decide), show am_as a n H.size 5 (n + (0 + 1) + (0 + 1) + (0 + 1) + (0 + 1)) = H.size + 4 from hnj 4 (by decide)]
    simp [am_e, hRn, hI n (Nat.le_refl _), hI (n + 1) (by omega), hI (n + 1 + 1) (by omega), hI (n + 1 + 1 + 1) (by omega), hI (n + 1 + 1 + 1 + 1) (by omega), List.range, List.range.loop]
  have hP0 : va_P D vwCl (am_ws G a ks (am_RL lr) I L) F.heap := hP.kept (fun k q hk => f3 q.1 (hP k q hk).lt)
  have hPn : va_P D vwCl ((List.range 5).map (fun j => (H.size + j, (if j = 0 then .inl (G.2.2, 4, .inr (.inr (.inr (.inr (fun j => if j < 4 then some (H.size + 1 + j) else none))))) else .inl (G.1, 240, .inl (fun _ => 0)) : va_E)))) F.heap := by
    intro k q hk
    rw [List.getElem?_map] at hk
    cases hr5 : (List.range 5)[k]? with
    | none => rw [hr5] at hk; cases hk
    | some j =>
      rw [hr5] at hk
      have hj : j < 5 := List.mem_range.mp (List.mem_of_getElem? hr5)
      cases hk
      by_cases h0 : j = 0
      · subst h0
        exact f2
      · have := f4 (j - 1) (by omega)
        rw [show H.size + 1 + (j - 1) = H.size + j by omega] at this
        dsimp only
        rw [if_neg h0]
        show F.heap[H.size + j]? = some (vp_cell G.1 (240, .inl (fun _ => 0)))
        rw [this, vp_cell_i, ← arrV_new]
        rfl
  have hDn : va_D A ((List.range 5).map (fun j => (H.size + j, (if j = 0 then .inl (G.2.2, 4, .inr (.inr (.inr (.inr (fun j => if j < 4 then some (H.size + 1 + j) else none))))) else .inl (G.1, 240, .inl (fun _ => 0)) : va_E)))) := by
    have ix : ∀ (k : Nat) (q : Nat × va_E), ((List.range 5).map (fun j => (H.size + j, (if j = 0 then .inl (G.2.2, 4, .inr (.inr (.inr (.inr (fun j => if j < 4 then some (H.size + 1 + j) else none))))) else .inl (G.1, 240, .inl (fun _ => 0)) : va_E))))[k]? = some q → q.1 = H.size + k := by
      intro k q hk
      rw [List.getElem?_map] at hk
      cases hr5 : (List.range 5)[k]? with
      | none => rw [hr5] at hk; cases hk
      | some j =>
        rw [hr5] at hk
        have := (List.getElem?_eq_some_iff.mp hr5)
        have hj : j = k := by rw [← this.2]; simp
        cases hk
        rw [hj]
    exact ⟨fun i j p q hi hj e => by rw [ix i p hi, ix j q hj] at e; omega, fun k q hk => by rw [ix k q hk]; exact hA _ (Nat.le_trans hS.1 (by omega))⟩
  have hlt : ∀ (i j : Nat) (p q : Nat × va_E), (am_ws G a ks (am_RL lr) I L)[i]? = some p → ((List.range 5).map (fun j => (H.size + j, (if j = 0 then .inl (G.2.2, 4, .inr (.inr (.inr (.inr (fun j => if j < 4 then some (H.size + 1 + j) else none))))) else .inl (G.1, 240, .inl (fun _ => 0)) : va_E))))[j]? = some q → p.1 ≠ q.1 := by
    intro i j p q hi hj e
    have h1 := (hP i p hi).lt
    obtain ⟨z, -, hz⟩ := List.mem_map.mp (List.mem_of_getElem? hj)
    rw [← hz] at e
    simp at e
    omega
  have hP1 := va_P.app hP0 hPn
  have hD1 := hD.app hDn hlt
  rw [← ews] at hP1 hD1
  have key := k (am_as a n H.size 5) F.heap ls locs (fun k hk => by rw [ha k (hk8 k hk)]; exact h1 k hk) hP1 hD1 ⟨Nat.le_trans hS.1 (by rw [f1]; omega), fun q z1 z2 => (f3 q (Nat.lt_of_lt_of_le z1 hS.1)).trans (hS.2.1 q z1 z2), hS.2.2⟩ (am_as_lv ha hwf.1 hl)
  obtain ⟨t, a1, b1⟩ := key F rfl X'
  refine ⟨t, step t ?_, b1⟩
  rw [List.map_cons, am_as_st ha hwf.2, show am_v (am_as a n H.size 5) (.ref n) = .ref H.size from congrArg Value.ref (hnj 0 (by decide))] at a1
  rw [show T.heap = H from hT]
  exact a1
