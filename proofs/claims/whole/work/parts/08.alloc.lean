/-! CELLS THAT ARE MADE: the next number is the length of ks -/
def am_rf (n : Nat) (v : Value) : Bool := match v with
  | .ref k => Nat.blt k n || Nat.ble 1000000 k
  | _ => true
def am_wf (n : Nat) (lv : List (Option Value)) (st : List Value) : Bool := lv.all (fun o => match o with | some v => am_rf n v | none => true) && st.all (am_rf n)
/-- the addresses with one or more new ones from the place n on -/
def am_as (a : Nat → Nat) (n q m : Nat) : Nat → Nat := fun k => if n ≤ k ∧ k < n + m then q + (k - n) else a k
theorem am_as_v {a a' : Nat → Nat} {n : Nat} (h : ∀ k, (k < n ∨ 1000000 ≤ k) → a' k = a k) {v : Value} (hv : am_rf n v = true) : am_v a' v = am_v a v := by
  cases v with
  | ref k =>
    have : k < n ∨ 1000000 ≤ k := by
      simp only [am_rf, Bool.or_eq_true, Nat.blt_eq, Nat.ble_eq] at hv
      exact hv
    show Value.ref (a' k) = Value.ref (a k)
    rw [h k this]
  | _ => rfl
theorem am_as_st {a a' : Nat → Nat} {n : Nat} (h : ∀ k, (k < n ∨ 1000000 ≤ k) → a' k = a k) {st : List Value} (hv : st.all (am_rf n) = true) : st.map (am_v a') = st.map (am_v a) := by
  apply List.map_congr_left
  intro v hm
  exact am_as_v h (List.all_eq_true.mp hv v hm)
theorem am_as_lv {a a' : Nat → Nat} {n nl : Nat} {ls : Array Slot} (h : ∀ k, (k < n ∨ 1000000 ≤ k) → a' k = a k) {lv : List (Option Value)} (hv : lv.all (fun o => match o with | some v => am_rf n v | none => true) = true) (hl : am_has ls nl a lv) : am_has ls nl a' lv := by
  refine ⟨hl.1, hl.2.1, fun i v hi => ?_⟩
  have := List.all_eq_true.mp hv (some v) (List.mem_of_getElem? hi)
  rw [am_as_v h this]
  exact hl.2.2 i v hi
/-- a world's cells under other addresses, alike where it matters -/
theorem am_e_as {G : am_G} {a a' : Nat → Nat} {R : am_R} {I : am_I} {L : am_L} {k : Nat} {d : am_k} (h : ∀ j u, R k j = some u → a' u = a u) : am_e G a' R I L k d = am_e G a R I L k d := by
  have hr : ∀ j, (R k j).map a' = (R k j).map a := fun j => by
    cases hj : R k j with
    | none => rfl
    | some u => simp [h j u hj]
  rcases d with ⟨ci, ts⟩ | ⟨_ | _ | n, q⟩ <;> simp [am_e, am_fs, am_fv, hr]
theorem am_ws_as {G : am_G} {a a' : Nat → Nat} {ks : List am_k} {R : am_R} {I : am_I} {L : am_L} (ha : ∀ k, k < ks.length → a' k = a k) (hR : ∀ t j u, R t j = some u → a' u = a u) : am_ws G a' ks R I L = am_ws G a ks R I L := by
  apply List.ext_getElem?
  intro i
  simp only [am_ws, List.getElem?_mapIdx]
  cases hi : ks[i]? with
  | none => rfl
  | some d => simp only [Option.map_some]; rw [ha i (List.getElem?_eq_some_iff.mp hi).1, am_e_as (hR i)]
theorem am_ws_app {G : am_G} {a : Nat → Nat} {ks : List am_k} {d : am_k} {R : am_R} {I : am_I} {L : am_L} : am_ws G a (ks ++ [d]) R I L = am_ws G a ks R I L ++ [(a ks.length, am_e G a R I L ks.length d)] := by
  simp [am_ws, List.mapIdx_append]
section AMA
variable {x : am_X} {Q : State → Prop} {cc : ByteArray} {y : MethodName} {nL : Nat} {ret : Option FieldType} {dd mc ms pc : Nat} {lv : List (Option Value)} {st : List Value} {ks : List am_k} {R : am_R} {I : am_I} {L : am_L} {nc ns : Nat}
theorem j_objInit (hc : am_ok x cc y nL ret dd mc ms) {t i : Nat} (hd : decode cc pc = .ok (.invokespecial i, 3)) (hw : Cond.methodLink y.cls i Lib.objectInit ∈ am_gd) (hw2 : Cond.instanceMethod Lib.objectInit ∈ am_gd ∧ Cond.code Lib.objectInit ⟨#[0xb1]⟩ 1 none ∈ am_gd) (hdd : 1 ≤ dd) (hcat : (st.map fun v => v.category).sum ≤ 8) (k : am_JQ x Q (pc + 3) lv st ks R I L nc ns) : am_JQ x Q pc lv (.ref t :: st) ks R I L nc ns := by
  obtain ⟨p, l, e, Rm, s, m, args, below, meth, c, D, G, A, a0, k0, mc9, ms9⟩ := x
  obtain ⟨hx, hb, hown, hts, hr, hlocks, hK, hA, hfr, hlo, hm, hml, hnm, hE, hk9⟩ := hc
  intro a H ls locs h1 hP hD hS hl
  have hc8 : (List.map ((fun v => v.category) ∘ am_v a) st).sum ≤ 8 := by simpa [Function.comp_def, am_v_cat] using hcat
  exact W.objInit (rest := st.map (am_v a)) hx hb hown (hts _ hw) (hts _ hw2.1) (hts _ hw2.2) rfl hl.1 rfl hd (by omega) (by rw [List.map_map]; show 2 * 0 + _ + 12 ≤ _; omega) (k a H ls locs h1 hP hD hS hl)
theorem j_new (hc : am_ok x cc y nL ret dd mc ms) {i ci N n : Nat} {C : String} {T : u_T} {ts : List Nat} {ty0 : Nat → FieldType} (hd : decode cc pc = .ok (.new i, 3)) (hn : ks.length = n) (hcl : vwCl[ci]? = some (C, T, N)) (hin : ∀ w ∈ u_ws C T N, w ∈ am_gd) (hty : ∀ k, k < N → parseFieldDescriptor (T k).2.2.1 = some (ty0 k)) (hw : Cond.classLink y.cls i C ∈ am_gd ∧ Cond.instantiable C N ∈ am_gd ∧ Cond.initialized C ∈ am_gd)
    (hts2 : ∀ j, j < N → ∀ (a : Nat → Nat), defaultValue (ty0 j) = vp_V (am_fs a (fun _ _ => none) (fun _ _ => 0) (fun _ _ => 0) n ts) j) (hI : I n = fun _ => 0) (hL : L n = fun _ => 0) (hR : R n = fun _ => none) (hRw : ∀ t j, R t j ≠ some n) (hk8 : ∀ k, am_k0 x k → k ≠ n) (hwf : am_wf n lv st = true) (hnc : nc + 1 ≤ mc ∧ ns + N ≤ ms)
    (k : am_JQ x Q (pc + 3) lv (.ref n :: st) (ks ++ [.inl (ci, ts)]) R I L (nc + 1) (ns + N)) : am_JQ x Q pc lv st ks R I L nc ns := by
  obtain ⟨p, l, e, Rm, s, m, args, below, meth, c, D, G, A, a0, k0, mc9, ms9⟩ := x
  obtain ⟨hx, hb, hown, hts, hr, hlocks, hK, hA, hfr, hlo, hm, hml, hnm, hE, hk9⟩ := hc
  simp only [am_wf, Bool.and_eq_true] at hwf
  have hn9 : n < 1000000 := by
    rcases Nat.lt_or_ge n 1000000 with h | h
    · exact h
    · exact absurd rfl (hk8 n (hk9 n h))
  intro a H ls locs h1 hP hD hS hl
  have efs : am_fs a R I L n ts = am_fs a (fun _ _ => none) (fun _ _ => 0) (fun _ _ => 0) n ts := by
    simp only [am_fs]
    congr 1
    funext j t
    rcases t with _ | _ | t <;> simp [am_fv, hI, hL, hR]
  refine va_new (c0 := c) (ci := ci) (fs := am_fs a R I L n ts) (C := C) (T := T) (N := N) hx hb hts hin ty0 hty hown (hts _ hw.1) (hts _ hw.2.1) (hts _ hw.2.2) hK hP hD hS hA hcl (fun j hj => by rw [efs]; exact hts2 j hj a) (by have := hm.2.2.1; omega) (by have := hm.2.2.2; omega) hd (fun q H1 hP1 hD1 hS1 => ?_)
  have ha : ∀ k, (k < n ∨ 1000000 ≤ k) → am_as a n q 1 k = a k := fun k hk => by
    unfold am_as
    rw [if_neg (by omega)]
  have hn0 : am_as a n q 1 n = q := by unfold am_as; rw [if_pos (by omega)]; omega
  have hra : ∀ t j u, R t j = some u → am_as a n q 1 u = a u := fun t j u h => by
    unfold am_as
    rw [if_neg (fun z => hRw t j (by rw [h]; congr 1; omega))]
  have ew : am_ws G (am_as a n q 1) (ks ++ [.inl (ci, ts)]) R I L = am_ws G a ks R I L ++ [(q, .inr (ci, am_fs a R I L n ts))] := by
    rw [am_ws_app, hn, hn0, am_ws_as (fun k hk => ha k (Or.inl (by omega))) hra, am_e_as (fun j u h => hra n j u h)]
    rfl
  rw [← ew] at hP1 hD1
  have := k (am_as a n q 1) H1 ls locs (fun k hk => by
    have hne := hk8 k hk
    unfold am_as
    rw [if_neg (by omega)]
    exact h1 k hk) hP1 hD1 hS1 (am_as_lv ha hwf.1 hl)
  rw [List.map_cons, am_as_st ha hwf.2, show am_v (am_as a n q 1) (.ref n) = .ref q from congrArg Value.ref hn0] at this
  exact this
theorem j_newI (hc : am_ok x cc y nL ret dd mc ms) {n N : Nat} {v : Int32} (hd : decode cc pc = .ok (.newarray .int, 2)) (hn : ks.length = n) (hw : Cond.arrayClass .int ∈ am_gd) (hv : v = nI N) (hN : N < 100000) (hI : I n = fun _ => 0) (hRw : ∀ t j, R t j ≠ some n) (hk8 : ∀ k, am_k0 x k → k ≠ n) (hwf : am_wf n lv st = true) (hnc : nc + 1 ≤ mc ∧ ns + N ≤ ms)
    (k : am_JQ x Q (pc + 2) lv (.ref n :: st) (ks ++ [.inr (0, N)]) R I L (nc + 1) (ns + N)) : am_JQ x Q pc lv (.int v :: st) ks R I L nc ns := by
  obtain ⟨p, l, e, Rm, s, m, args, below, meth, c, D, G, A, a0, k0, mc9, ms9⟩ := x
  obtain ⟨hx, hb, hown, hts, hr, hlocks, hK, hA, hfr, hlo, hm, hml, hnm, hE, hk9⟩ := hc
  simp only [am_wf, Bool.and_eq_true] at hwf
  have hn9 : n < 1000000 := by
    rcases Nat.lt_or_ge n 1000000 with h | h
    · exact h
    · exact absurd rfl (hk8 n (hk9 n h))
  intro a H ls locs h1 hP hD hS hl
  subst hv
  refine va_newa (atype := .int) (ty := .int) (a0 := (N, .inl (fun _ => 0))) (N' := N) hx hb (hts _ hw) rfl hK hP hD hS hA (fun _ => rfl) (nI_pos (by omega)) (nI_clamp (by omega)) (by simp [componentBytes]; omega) (by have := hm.2.2.1; omega) (by have := hm.2.2.2; omega) hd (fun q cA H1 hK1 hP1 hD1 hS1 => ?_)
  have eA : cA = G.1 := Option.some.inj ((hK1.2 3 _ rfl).2.symm.trans (hK.2 0 _ rfl).2)
  subst eA
  have ha : ∀ k, (k < n ∨ 1000000 ≤ k) → am_as a n q 1 k = a k := fun k hk => by
    unfold am_as
    rw [if_neg (by omega)]
  have hn0 : am_as a n q 1 n = q := by unfold am_as; rw [if_pos (by omega)]; omega
  have hra : ∀ t j u, R t j = some u → am_as a n q 1 u = a u := fun t j u h => by
    unfold am_as
    rw [if_neg (fun z => hRw t j (by rw [h]; congr 1; omega))]
  have ew : am_ws G (am_as a n q 1) (ks ++ [.inr (0, N)]) R I L = am_ws G a ks R I L ++ [(q, .inl (G.1, N, .inl (fun _ => 0)))] := by
    rw [am_ws_app, hn, hn0, am_ws_as (fun k hk => ha k (Or.inl (by omega))) hra]
    simp [am_e, hI]
  rw [← ew] at hP1 hD1
  have := k (am_as a n q 1) H1 ls locs (fun k hk => by
    have hne := hk8 k hk
    unfold am_as
    rw [if_neg (by omega)]
    exact h1 k hk) hP1 hD1 hS1 (am_as_lv ha hwf.1 hl)
  rw [List.map_cons, am_as_st ha hwf.2, show am_v (am_as a n q 1) (.ref n) = .ref q from congrArg Value.ref hn0] at this
  exact this
theorem j_newL (hc : am_ok x cc y nL ret dd mc ms) {n N : Nat} {v : Int32} (hd : decode cc pc = .ok (.newarray .long, 2)) (hn : ks.length = n) (hw : Cond.arrayClass .long ∈ am_gd) (hv : v = nI N) (hN : N < 100000) (hL : L n = fun _ => 0) (hRw : ∀ t j, R t j ≠ some n) (hk8 : ∀ k, am_k0 x k → k ≠ n) (hwf : am_wf n lv st = true) (hnc : nc + 1 ≤ mc ∧ ns + N ≤ ms)
    (k : am_JQ x Q (pc + 2) lv (.ref n :: st) (ks ++ [.inr (1, N)]) R I L (nc + 1) (ns + N)) : am_JQ x Q pc lv (.int v :: st) ks R I L nc ns := by
  obtain ⟨p, l, e, Rm, s, m, args, below, meth, c, D, G, A, a0, k0, mc9, ms9⟩ := x
  obtain ⟨hx, hb, hown, hts, hr, hlocks, hK, hA, hfr, hlo, hm, hml, hnm, hE, hk9⟩ := hc
  simp only [am_wf, Bool.and_eq_true] at hwf
  have hn9 : n < 1000000 := by
    rcases Nat.lt_or_ge n 1000000 with h | h
    · exact h
    · exact absurd rfl (hk8 n (hk9 n h))
  intro a H ls locs h1 hP hD hS hl
  subst hv
  refine va_newa (atype := .long) (ty := .long) (a0 := (N, .inr (.inl (fun _ => 0)))) (N' := N) hx hb (hts _ hw) rfl hK hP hD hS hA (fun _ => rfl) (nI_pos (by omega)) (nI_clamp (by omega)) (by simp [componentBytes]; omega) (by have := hm.2.2.1; omega) (by have := hm.2.2.2; omega) hd (fun q cA H1 hK1 hP1 hD1 hS1 => ?_)
  have eA : cA = G.2.1 := Option.some.inj ((hK1.2 3 _ rfl).2.symm.trans (hK.2 1 _ rfl).2)
  subst eA
  have ha : ∀ k, (k < n ∨ 1000000 ≤ k) → am_as a n q 1 k = a k := fun k hk => by
    unfold am_as
    rw [if_neg (by omega)]
  have hn0 : am_as a n q 1 n = q := by unfold am_as; rw [if_pos (by omega)]; omega
  have hra : ∀ t j u, R t j = some u → am_as a n q 1 u = a u := fun t j u h => by
    unfold am_as
    rw [if_neg (fun z => hRw t j (by rw [h]; congr 1; omega))]
  have ew : am_ws G (am_as a n q 1) (ks ++ [.inr (1, N)]) R I L = am_ws G a ks R I L ++ [(q, .inl (G.2.1, N, .inr (.inl (fun _ => 0))))] := by
    rw [am_ws_app, hn, hn0, am_ws_as (fun k hk => ha k (Or.inl (by omega))) hra]
    simp [am_e, hL]
  rw [← ew] at hP1 hD1
  have := k (am_as a n q 1) H1 ls locs (fun k hk => by
    have hne := hk8 k hk
    unfold am_as
    rw [if_neg (by omega)]
    exact h1 k hk) hP1 hD1 hS1 (am_as_lv ha hwf.1 hl)
  rw [List.map_cons, am_as_st ha hwf.2, show am_v (am_as a n q 1) (.ref n) = .ref q from congrArg Value.ref hn0] at this
  exact this
end AMA
theorem am_RL_put (l : List (Nat × Nat × Nat)) (t j u : Nat) : am_uR (am_RL l) t j (some u) = am_RL ((t, j, u) :: l) := by
  funext k i
  by_cases h1 : k = t
  · subst h1
    by_cases h2 : i = j
    · subst h2; simp [am_uR, va_up, am_RL]
    · have hb : (j == i) = false := beq_eq_false_iff_ne.mpr (fun e => h2 e.symm)
      simp [am_uR, va_up, am_RL, h2, hb, List.find?]
  · have hb : (t == k) = false := beq_eq_false_iff_ne.mpr (fun e => h1 e.symm)
    simp [am_uR, am_RL, h1, hb, List.find?]
theorem am_RL_nul (l : List (Nat × Nat × Nat)) (t j : Nat) (h : l.all (fun q => !(q.1 == t && q.2.1 == j)) = true) : am_uR (am_RL l) t j none = am_RL l := by
  funext k i
  by_cases h1 : k = t
  · subst h1
    by_cases h2 : i = j
    · subst h2
      simp only [am_uR, va_up, am_RL, if_true]
      rw [List.find?_eq_none.mpr (fun q hq => by have := List.all_eq_true.mp h q hq; simp at this; simp; intro e1; rcases this with h | h; exact absurd e1 h; exact h)]
      rfl
    · simp [am_uR, va_up, am_RL, h2]
  · simp [am_uR, am_RL, h1]
theorem am_RL_ne {l : List (Nat × Nat × Nat)} {n : Nat} (h : l.all (fun q => !(q.2.2 == n)) = true) : ∀ t j, am_RL l t j ≠ some n := by
  intro t j e
  simp only [am_RL, Option.map_eq_some_iff] at e
  obtain ⟨q, hq, e⟩ := e
  have := List.all_eq_true.mp h q (List.mem_of_find?_eq_some hq)
  simp [e] at this
theorem am_RL_no {l : List (Nat × Nat × Nat)} {n : Nat} (h : l.all (fun q => !(q.1 == n)) = true) : am_RL l n = fun _ => none := by
  funext j
  simp only [am_RL]
  rw [List.find?_eq_none.mpr (fun q hq => by have := List.all_eq_true.mp h q hq; simp at this; simp [this])]
  rfl
theorem am_IL_put (l : List (Nat × Nat × Int32)) (t j : Nat) (v : Int32) : am_up (am_IL l) t j v = am_IL ((t, j, v) :: l) := by
  funext k i
  by_cases h1 : k = t
  · subst h1
    by_cases h2 : i = j
    · subst h2; simp [am_up, upd, am_IL]
    · have hb : (j == i) = false := beq_eq_false_iff_ne.mpr (fun e => h2 e.symm)
      simp [am_up, upd, am_IL, h2, hb, List.find?]
  · have hb : (t == k) = false := beq_eq_false_iff_ne.mpr (fun e => h1 e.symm)
    simp [am_up, am_IL, h1, hb, List.find?]
theorem am_IL_no {l : List (Nat × Nat × Int32)} {n : Nat} (h : l.all (fun q => !(q.1 == n)) = true) : am_IL l n = fun _ => 0 := by
  funext j
  simp only [am_IL]
  rw [List.find?_eq_none.mpr (fun q hq => by have := List.all_eq_true.mp h q hq; simp at this; simp [this])]
  rfl
def am_L0 : am_L := fun _ _ => 0
theorem am_L0_put (t j : Nat) : am_uL am_L0 t j 0 = am_L0 := by
  funext k i
  by_cases h1 : k = t <;> by_cases h2 : i = j <;> simp [am_uL, am_L0, vp_updL, h1, h2]
section AMI
variable {x : am_X} {Q : State → Prop} {cc : ByteArray} {y : MethodName} {nL : Nat} {ret : Option FieldType} {dd mc ms pc : Nat} {lv : List (Option Value)} {st : List Value} {ks : List am_k} {R : am_R} {I : am_I} {L : am_L} {nc ns : Nat}
/-- what the tables say of a constructor that is called -/
def am_mi (y : MethodName) (cc : ByteArray) (n na : Nat) : Prop := Cond.code y cc n none ∈ am_gd ∧ Cond.instanceMethod y ∈ am_gd ∧ Cond.initialized y.cls ∈ am_gd ∧ y.name = "<init>" ∧ (y.cls ≠ "java/lang/invoke/MethodHandle" ∧ y.cls ≠ "java/lang/invoke/VarHandle" ∧ (parseMethodDescriptor y.desc).map (fun d => d.parameters.length) = some na)
theorem j_callI (hc : am_ok x cc y nL ret dd mc ms) {y' : MethodName} {cc' : ByteArray} {n' d' mc' ms' i t n : Nat} {host : String} {As st0 : List Value} {ks' : List am_k} {R' : am_R} {I' : am_I} {L' : am_L} (hd : decode cc pc = .ok (.invokespecial i, 3)) (hlk : Cond.methodLink y.cls i y' ∈ am_gd ∨ (y.cls, i, y', host) ∈ am_nl) (hmi : am_mi y' cc' n' As.length) (hst : As.reverse ++ .ref t :: st = st0) (hn : ks.length = n) (hk8 : ∀ k, am_k0 x k → k < n ∨ 1000000 ≤ k) (hwf : am_wf n lv st = true) (hdd : d' + 1 ≤ dd) (hn' : n' ≤ 21) (hcat : (st.map fun v => v.category).sum ≤ 8) (hnc : nc + mc' ≤ mc ∧ ns + ms' ≤ ms)
    (hM : am_CA x.2.1 y' cc' n' none d' mc' ms' (fun k => k < n ∨ 1000000 ≤ k) (.ref t :: As) ks R I L (fun S => S = (none, ks', R', I', L'))) (k : am_JQ x Q (pc + 3) lv st ks' R' I' L' (nc + mc') (ns + ms')) : am_JQ x Q pc lv st0 ks R I L nc ns := by
  obtain ⟨p, l, e, Rm, s, m, args, below, meth, c, D, G, A, a0, k0, mc9, ms9⟩ := x
  obtain ⟨hx, hb, hown, hts, hr, hlocks, hK, hA, hfr, hlo, hm, hml, hnm, hE, hk9⟩ := hc
  obtain ⟨hcd, hin, hini, hnam, hds⟩ := hmi
  simp only [am_wf, Bool.and_eq_true] at hwf
  intro a H ls locs h1 hP hD hS hl
  have hC := hM D G a H.size
  have hFc : ∀ q, va_A (am_ws G a ks R I L) H.size q → A q := fun q h => h.elim (fun ⟨k, e, h⟩ => hD.2 k (q, e) h) (fun h => hA q (Nat.le_trans hS.1 h))
  have hGd : GoodIn am_gd (am_wd y' cc' n' none) := fun w h => ⟨(List.mem_cons.mp h).elim (fun q => q ▸ hcd) (fun q => q), good_of_word ((List.mem_cons.mp h).elim (fun q => q ▸ rfl) (fun q => List.all_eq_true.mp am_good w q))⟩
  have hPre : PreS s H (va_Pc ((.ref t :: As).map (am_v a)) (fun U => U.heap.size = H.size ∧ va_P D vwCl (am_ws G a ks R I L) U.heap ∧ va_K D vwCl (am_ty G) U ∧ va_D (fun _ => True) (am_ws G a ks R I L) ∧ am_E (va_A (am_ws G a ks R I L) H.size) a U U.heap)) (.ref (a t) :: As.map (am_v a)) := ⟨fun a U g mk q => by obtain ⟨q0, q1, qP, qK, qD, qE⟩ := q; exact ⟨q0, q1, qP, va_K.moved (u := U) (U := U.calling g mk a) (Vm.Alike.refl U.vm) qK, qD, am_E_same (s := U) (U := U.calling g mk a) rfl qE⟩, fun U hU hW => ⟨rfl, by rw [hU], by rw [hU]; exact hP, va_K.moved hW.alike hK, hD.weaken (fun _ _ _ _ => trivial), by rw [hU]; exact am_E_warm hW (am_E_call hS hFc (am_E_at (fun k q => h1 k (hk9 k q)) hE))⟩⟩
  subst hst
  have hrun : va_Run p l e Rm s m args below meth c H locs nc ns mc' ms' (F0 m pc ls ((As.reverse ++ .ref t :: st).map (am_v a))) (st.map (am_v a)) (am_Qc D G (va_A (am_ws G a ks R I L) H.size) a (fun k => k < n ∨ 1000000 ≤ k) (fun S => S = (none, ks', R', I', L')) (Value.ref (a t) :: As.map (am_v a)).toArray) (va_A (am_ws G a ks R I L) H.size) := by
    rcases hlk with hlk | hlk
    · exact va_runI (n := As.length) (As := As.map (am_v a)) (rest := st.map (am_v a)) ⟨hx, hb, rfl, hown, hts⟩ hC ⟨callB_of As.length hts hGd rfl rfl rfl (hts _ hini) (hts _ hlk) hds ⟨by show d' + 1 ≤ _; omega, by show 8 + (n' + 11) + 40 * d' ≤ _; omega⟩, hnam, hts _ hin⟩ hPre rfl (by simp) hl.1 (by simp [am_v]) (lv_room (by rw [List.map_map]; simpa [Function.comp_def, am_v_cat] using hcat)) hd ⟨by have := hm.2.2.1; omega, by have := hm.2.2.2; omega⟩
    · have hN := hE.2.2.2.2.2.2.2.1 _ hlk
      exact va_runIN (n := As.length) (host := host) (As := As.map (am_v a)) (rest := st.map (am_v a)) ⟨hx, hb, rfl, hown, hts⟩ hC ⟨va_cnB As.length hts hGd rfl rfl rfl hN (hts _ hini) hds ⟨by show d' + 1 ≤ _; omega, by show 8 + (n' + 11) + 40 * d' ≤ _; omega⟩, hnam, hts _ hin⟩ hPre rfl (by simp) hl.1 (by simp [am_v]) (lv_room (by rw [List.map_map]; simpa [Function.comp_def, am_v_cat] using hcat)) hd ⟨by have := hm.2.2.1; omega, by have := hm.2.2.2; omega⟩
  refine am_run hrun hS (fun q _ h => hFc q h) hFc (fun a' res9 t H1 locs1 ht hres9 h2 hP1 hD1 hS1 _ => ?_)
  subst hres9
  have := k a' H1 ls locs1 (fun k hk => (h2 k (hk8 k hk)).trans (h1 k hk)) (by rw [← ht]; exact hP1) (hD1.weaken (fun k q _ h => hFc q.1 h)) hS1 (am_as_lv h2 hwf.1 hl)
  rw [am_as_st h2 hwf.2] at this
  exact this
end AMI
