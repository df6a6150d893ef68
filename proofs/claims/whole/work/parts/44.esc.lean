/-! PURE: escorts, what is sought. -/
def rmv (f : Nat → Bool) (o : Nat) : Nat → Bool := fun i => if i = o then false else f i
/-- the greatest v of those below i for whom p holds, 0 without -/
def bo (v : Nat → Nat) (p : Nat → Bool) : Nat → Nat
  | 0 => 0
  | i + 1 => if p i = true then max (bo v p i) (v i) else bo v p i
def lo (w : Nat → Bool) : Nat → Nat → Nat
  | 0, _ => 9
  | j + 1, i => if w i = true then i else lo w j (i + 1)
/-- ec who escorts, rc whom he reaches, μ men; j men from m on are left, f who is free -/
def Bm (ec : Nat → Bool) (rc : Nat → Nat → Bool) (μ : Nat) : Nat → Nat → (Nat → Bool) → Nat
  | 0, _, _ => 0
  | j + 1, m, f => if ec m = true then max (bo (fun o => 1 + Bm ec rc μ j (m + 1) (rmv f o)) (fun o => f o && rc m o) μ) (Bm ec rc μ j (m + 1) f) else Bm ec rc μ j (m + 1) f
def wt (ec : Nat → Bool) (rc : Nat → Nat → Bool) (μ j m : Nat) (f : Nat → Bool) : Nat → Bool := fun o => (f o && rc m o) && decide (1 + Bm ec rc μ j (m + 1) (rmv f o) = Bm ec rc μ (j + 1) m f)
def Rm (ec : Nat → Bool) (rc : Nat → Nat → Bool) (μ : Nat) : Nat → Nat → (Nat → Bool) → Nat → Nat
  | 0, _, _, row => row
  | j + 1, m, f, row => if ec m = true then (if lo (wt ec rc μ j m f) μ 0 = 9 then Rm ec rc μ j (m + 1) f (10 * row + 9) else Rm ec rc μ j (m + 1) (rmv f (lo (wt ec rc μ j m f) μ 0)) (10 * row + lo (wt ec rc μ j m f) μ 0)) else Rm ec rc μ j (m + 1) f row
theorem bo_ge {v : Nat → Nat} {p : Nat → Bool} : ∀ i o, o < i → p o = true → v o ≤ bo v p i
  | 0, _, h, _ => by omega
  | i + 1, o, h, hp => by
    unfold bo
    by_cases c : o = i
    · subst c
      rw [if_pos hp]; omega
    · have := bo_ge (v := v) i o (by omega) hp
      split <;> omega
theorem bo_at {v : Nat → Nat} {p : Nat → Bool} : ∀ i, bo v p i = 0 ∨ ∃ o, o < i ∧ p o = true ∧ v o = bo v p i
  | 0 => Or.inl rfl
  | i + 1 => by
    unfold bo
    by_cases c : p i = true
    · rw [if_pos c]
      by_cases c2 : bo v p i ≤ v i
      · exact Or.inr ⟨i, by omega, c, by omega⟩
      · rcases bo_at (v := v) (p := p) i with h | ⟨o, h1, h2, h3⟩
        · omega
        · exact Or.inr ⟨o, by omega, h2, by omega⟩
    · rw [if_neg c]
      rcases bo_at (v := v) (p := p) i with h | ⟨o, h1, h2, h3⟩
      · exact Or.inl h
      · exact Or.inr ⟨o, by omega, h2, h3⟩
theorem lo_is {w : Nat → Bool} {o : Nat} (h1 : w o = true) : ∀ (j i : Nat), i ≤ o → o < i + j → (∀ k, i ≤ k → k < o → w k = false) → lo w j i = o
  | 0, i, h2, h3, _ => by omega
  | j + 1, i, h2, h3, h4 => by
    unfold lo
    by_cases c : i = o
    · subst c; rw [if_pos h1]
    · rw [h4 i (by omega) (by omega), if_neg (by decide)]
      exact lo_is h1 j (i + 1) (by omega) (by omega) (fun k g1 g2 => h4 k (by omega) g2)
theorem lo_no {w : Nat → Bool} : ∀ (j i : Nat), (∀ k, i ≤ k → k < i + j → w k = false) → lo w j i = 9
  | 0, _, _ => rfl
  | j + 1, i, h => by
    unfold lo
    rw [h i (by omega) (by omega), if_neg (by decide)]
    exact lo_no j (i + 1) (fun k g1 g2 => h k (by omega) (by omega))
theorem lo_ok {w : Nat → Bool} : ∀ (j i : Nat), lo w j i = 9 ∨ (i ≤ lo w j i ∧ lo w j i < i + j ∧ w (lo w j i) = true)
  | 0, _ => Or.inl rfl
  | j + 1, i => by
    unfold lo
    by_cases c : w i = true
    · rw [if_pos c]; exact Or.inr ⟨by omega, by omega, c⟩
    · rw [if_neg c]
      rcases lo_ok (w := w) j (i + 1) with h | ⟨h1, h2, h3⟩
      · exact Or.inl h
      · exact Or.inr ⟨by omega, by omega, h3⟩
/-- what the model's trying keeps: (many + 1, row), after the options below i -/
def stf (v : Nat → Nat) (p : Nat → Bool) (ρ : Nat → Int32) (c M : Nat) (Q : Int32) : Nat → Nat × Int32
  | 0 => (M, Q)
  | i + 1 => if p i = true then (if (stf v p ρ c M Q i).1 ≤ c + v i then (c + v i + 1, ρ i) else stf v p ρ c M Q i) else stf v p ρ c M Q i
theorem stf_1 {v : Nat → Nat} {p : Nat → Bool} {ρ : Nat → Int32} {c M : Nat} {Q : Int32} (hv : ∀ o, 1 ≤ v o) : ∀ i, (stf v p ρ c M Q i).1 = max M (if bo v p i = 0 then 0 else c + bo v p i + 1) ∧ ((bo v p i = 0 ∨ c + bo v p i + 1 ≤ M) → (stf v p ρ c M Q i).2 = Q) ∧ (¬ (bo v p i = 0 ∨ c + bo v p i + 1 ≤ M) → ∃ o, o < i ∧ p o = true ∧ v o = bo v p i ∧ (∀ k, k < o → ¬ (p k = true ∧ v k = bo v p i)) ∧ (stf v p ρ c M Q i).2 = ρ o)
  | 0 => by
    have b0 : bo v p 0 = 0 := rfl
    refine ⟨?_, fun _ => rfl, fun h => absurd (Or.inl b0) h⟩
    rw [b0, if_pos rfl]
    show M = max M 0
    omega
  | i + 1 => by
    obtain ⟨h1, h2, h3⟩ := stf_1 (p := p) (ρ := ρ) (c := c) (M := M) (Q := Q) hv i
    have vi := hv i
    unfold stf bo
    by_cases cp : p i = true
    · rw [if_pos cp, if_pos cp]
      by_cases cm : (stf v p ρ c M Q i).1 ≤ c + v i
      · rw [if_pos cm]
        rw [h1] at cm
        have b : bo v p i < v i := by
          by_cases z : bo v p i = 0
          · omega
          · rw [if_neg z] at cm; omega
        have e : max (bo v p i) (v i) = v i := by omega
        rw [e]
        refine ⟨?_, fun h => by omega, fun _ => ⟨i, by omega, cp, rfl, fun k hk z => ?_, rfl⟩⟩
        · rw [if_neg (by omega)]
          show c + v i + 1 = _
          omega
        · have := bo_ge (v := v) (p := p) i k hk z.1
          omega
      · rw [if_neg cm]
        rw [h1] at cm
        by_cases z : bo v p i = 0
        · have b2 : c + v i + 1 ≤ M := by rw [if_pos z] at cm; omega
          have e : max (bo v p i) (v i) = v i := by omega
          rw [e]
          refine ⟨?_, fun _ => h2 (Or.inl z), fun h => absurd (Or.inr b2) h⟩
          rw [h1, z, if_pos rfl, if_neg (by omega)]
          omega
        · rw [if_neg z] at cm
          by_cases b3 : c + v i + 1 ≤ M ∧ bo v p i < v i
          · have e : max (bo v p i) (v i) = v i := by omega
            rw [e]
            refine ⟨?_, fun _ => h2 (Or.inr (by omega)), fun h => absurd (Or.inr b3.1) h⟩
            rw [h1, if_neg z, if_neg (by omega)]
            omega
          · have e : max (bo v p i) (v i) = bo v p i := by omega
            rw [e]
            refine ⟨h1, h2, fun h => ?_⟩
            obtain ⟨o, g1, g2, g3, g4, g5⟩ := h3 h
            exact ⟨o, by omega, g2, g3, g4, g5⟩
    · rw [if_neg cp, if_neg cp]
      refine ⟨h1, h2, fun h => ?_⟩
      obtain ⟨o, g1, g2, g3, g4, g5⟩ := h3 h
      exact ⟨o, by omega, g2, g3, g4, g5⟩
/-- hides a fact from omega -/
def Hd (P : Prop) : Prop := P
theorem stf_sum {v : Nat → Nat} {p : Nat → Bool} {ρ : Nat → Int32} {c M μ b bn V : Nat} {Q ρn res : Int32} {w : Nat → Bool} (hv : ∀ o, 1 ≤ v o) (hb : bo v p μ = b) (eV : V = max b bn) (hμ : μ ≤ 8) (hw : ∀ o, w o = (p o && decide (v o = V))) (hres : res = if lo w μ 0 = 9 then ρn else ρ (lo w μ 0)) : (if (stf v p ρ c M Q μ).1 ≤ c + bn then (c + bn + 1, ρn) else stf v p ρ c M Q μ) = (if M ≤ c + V then (c + V + 1, res) else (M, Q)) := by
  obtain ⟨h1, h2, h3⟩ := stf_1 (v := v) (p := p) (ρ := ρ) (c := c) (M := M) (Q := Q) hv μ
  have hbo := bo_ge (v := v) (p := p) μ
  rw [hb] at h1 h2 h3 hbo
  generalize stf v p ρ c M Q μ = S at *
  have h3' : Hd _ := h3
  clear h3
  have none9 : b < bn → lo w μ 0 = 9 := fun hlt => lo_no μ 0 (fun k _ hk => by
    rw [hw k]
    cases cp : p k
    · rfl
    · have := hbo k (by omega) cp
      rw [decide_eq_false (by omega)]; rfl)
  by_cases c1 : M ≤ c + V
  · rw [if_pos c1]
    by_cases c2 : b < bn
    · have e : V = bn := by omega
      rw [if_pos (by rw [h1]; split <;> omega), e, hres, none9 c2, if_pos rfl]
    · have e : V = b := by omega
      by_cases z : b = 0
      · have zn' : bn = 0 := by omega
        have l9 : lo w μ 0 = 9 := lo_no μ 0 (fun k _ hk => by
          rw [hw k]
          cases cp : p k
          · rfl
          · have := hbo k (by omega) cp
            have := hv k
            omega)
        rw [if_pos (by rw [h1, if_pos z]; omega), e, hres, l9, if_pos rfl, z, zn']
      · have nu : ¬ (b = 0 ∨ c + b + 1 ≤ M) := by omega
        obtain ⟨o, g1, g2, g3, g4, g5⟩ := (show ¬ (b = 0 ∨ c + b + 1 ≤ M) → _ from h3') nu
        have lo_o : lo w μ 0 = o := lo_is (by rw [hw o, g2, decide_eq_true (by omega)]; rfl) μ 0 (by omega) (by omega) (fun k _ hk => by
          rw [hw k]
          cases cp : p k
          · rfl
          · rw [decide_eq_false (fun z => g4 k hk ⟨cp, by omega⟩)]; rfl)
        rw [if_neg (by rw [h1, if_neg z]; omega), e, hres, lo_o, if_neg (by omega)]
        refine Prod.ext ?_ g5
        rw [h1, if_neg z]
        show _ = c + b + 1
        omega
  · rw [if_neg c1]
    rw [if_neg (by rw [h1]; omega)]
    refine Prod.ext ?_ (h2 (by omega))
    rw [h1]
    show _ = M
    split <;> omega
theorem Bm_s {ec : Nat → Bool} {rc : Nat → Nat → Bool} {μ j m : Nat} {f : Nat → Bool} (he : ec m = true) : Bm ec rc μ (j + 1) m f = max (bo (fun o => 1 + Bm ec rc μ j (m + 1) (rmv f o)) (fun o => f o && rc m o) μ) (Bm ec rc μ j (m + 1) f) := by
  show (if ec m = true then _ else _) = _
  rw [if_pos he]
theorem Bm_n {ec : Nat → Bool} {rc : Nat → Nat → Bool} {μ j m : Nat} {f : Nat → Bool} (he : ec m = false) : Bm ec rc μ (j + 1) m f = Bm ec rc μ j (m + 1) f := by
  show (if ec m = true then _ else _) = _
  rw [he, if_neg (by decide)]
theorem Rm_s {ec : Nat → Bool} {rc : Nat → Nat → Bool} {μ j m row : Nat} {f : Nat → Bool} (he : ec m = true) : Rm ec rc μ (j + 1) m f row = (if lo (wt ec rc μ j m f) μ 0 = 9 then Rm ec rc μ j (m + 1) f (10 * row + 9) else Rm ec rc μ j (m + 1) (rmv f (lo (wt ec rc μ j m f) μ 0)) (10 * row + lo (wt ec rc μ j m f) μ 0)) := by
  show (if ec m = true then _ else _) = _
  rw [if_pos he]
theorem Rm_n {ec : Nat → Bool} {rc : Nat → Nat → Bool} {μ j m row : Nat} {f : Nat → Bool} (he : ec m = false) : Rm ec rc μ (j + 1) m f row = Rm ec rc μ j (m + 1) f row := by
  show (if ec m = true then _ else _) = _
  rw [he, if_neg (by decide)]
/-- all options of an escort, and nobody at last -/
theorem stf_all {ec : Nat → Bool} {rc : Nat → Nat → Bool} {μ j m row c M : Nat} {f : Nat → Bool} {Q : Int32} (hμ : μ ≤ 8) (he : ec m = true) : (if (stf (fun o => 1 + Bm ec rc μ j (m + 1) (rmv f o)) (fun o => f o && rc m o) (fun o => nI (Rm ec rc μ j (m + 1) (rmv f o) (10 * row + o))) c M Q μ).1 ≤ c + Bm ec rc μ j (m + 1) f then (c + Bm ec rc μ j (m + 1) f + 1, nI (Rm ec rc μ j (m + 1) f (10 * row + 9))) else stf (fun o => 1 + Bm ec rc μ j (m + 1) (rmv f o)) (fun o => f o && rc m o) (fun o => nI (Rm ec rc μ j (m + 1) (rmv f o) (10 * row + o))) c M Q μ) = (if M ≤ c + Bm ec rc μ (j + 1) m f then (c + Bm ec rc μ (j + 1) m f + 1, nI (Rm ec rc μ (j + 1) m f row)) else (M, Q)) := by
  refine stf_sum (w := wt ec rc μ j m f) (fun o => by show 1 ≤ 1 + _; omega) rfl (Bm_s he) hμ (fun o => rfl) ?_
  rw [Rm_s he]
  split <;> rfl
