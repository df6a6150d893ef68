/-! PURE: without rows: a run that makes none, or one that makes them. -/
theorem am_ckI {β : Type} {i : Int32} {n : Nat} {K : Option β} (h : vp_in i n) : am_ck i n K = K := by
  unfold am_ck
  exact if_pos (vp_in_iff.mp h)
def ZS (I : am_I) : Prop := ((I 67 = fun _ => 0) ∧ (I 68 = fun _ => 0)) ∧ ∀ a : Int32, vp_in a 8 → ¬ I 3 0 ≤ a → ¬ I 6 a.toNatClampNeg = I 51 8
theorem fr_canGo {n d : Nat} {a : Int32} {I I' : am_I} {L L' : am_L} {v : Int32} (h : fX7_canGo n d a I L = some (v, I', L')) : I' = I ∧ L' = L := by
  unfold fX7_canGo at h
  have hh := am_ckE h; clear h; obtain ⟨_, h⟩ := hh
  rw [zz_lt] at h
  split at h <;> (cases h; exact ⟨rfl, rfl⟩)
theorem fr_place {n d : Nat} {a b : Int32} {I I' : am_I} {L L' : am_L} {v : Int32} (h : fX0_place n d a b I L = some (v, I', L')) : I' = I ∧ L' = L := by
  unfold fX0_place at h
  split at h
  · cases h; exact ⟨rfl, rfl⟩
  · split at h
    · cases h; exact ⟨rfl, rfl⟩
    · have hh := am_ckE h; clear h; obtain ⟨_, h⟩ := hh
      rw [zz_lt] at h
      cases h; exact ⟨rfl, rfl⟩
theorem fr_placeOf {n d : Nat} {a : Int32} {I I' : am_I} {L L' : am_L} {v : Int32} (h : fX11_placeOf n d a I L = some (v, I', L')) : I' = I ∧ L' = L := by
  unfold fX11_placeOf at h
  have hh := am_ckE h; clear h; obtain ⟨_, h⟩ := hh
  rw [zz_lt] at h
  have hh := am_ckE h; clear h; obtain ⟨_, h⟩ := hh
  rw [zz_lt] at h
  have hh := am_b3E h; clear h; obtain ⟨v1, I1, L1, e1, h⟩ := hh
  obtain ⟨q1, q2⟩ := fr_place e1
  cases h
  exact ⟨q1, q2⟩
theorem fr_max {n d : Nat} {a b : Int32} {I I' : am_I} {L L' : am_L} {v : Int32} (h : fJ9_max_7cf53 n d a b I L = some (v, I', L')) : I' = I ∧ L' = L := by
  unfold fJ9_max_7cf53 at h
  split at h <;> (cases h; exact ⟨rfl, rfl⟩)
theorem fr_farL {n d : Nat} : ∀ (F : Nat) (a1 a2 a3 : Int32) (I I' : am_I) (L L' : am_L) (v : Int32), fX11_farthestPlace_b4 n d F a1 a2 a3 I L = some (v, I', L') → I' = I ∧ L' = L
  | 0, _, _, _, _, _, _, _, _, h => by cases h
  | F + 1, a1, a2, a3, I, I', L, L', v, h0 => by
    have h : fX11_farthestPlace_b4w n d (fX11_farthestPlace_b4 n d F) a1 a2 a3 I L = some (v, I', L') := h0
    clear h0
    unfold fX11_farthestPlace_b4w at h
    split at h
    · cases h; exact ⟨rfl, rfl⟩
    · have hh := am_ckE h; clear h; obtain ⟨_, h⟩ := hh
      rw [zz_lt] at h
      split at h
      · have hh := am_b3E h; clear h; obtain ⟨v1, I1, L1, e1, h⟩ := hh
        obtain ⟨q1, q2⟩ := fr_placeOf e1
        subst q1 q2
        have hh := am_b3E h; clear h; obtain ⟨v2, I2, L2, e2, h⟩ := hh
        obtain ⟨q1, q2⟩ := fr_max e2
        subst q1 q2
        exact fr_farL F _ _ _ _ _ _ _ _ h
      · exact fr_farL F _ _ _ _ _ _ _ _ h
theorem fr_far {n d : Nat} {a : Int32} {I I' : am_I} {L L' : am_L} {v : Int32} (h : fX11_farthestPlace n d a I L = some (v, I', L')) : I' = I ∧ L' = L := fr_farL n _ _ _ _ _ _ _ _ h
theorem prep_eq {n d : Nat} {a1 a2 a3 a4 : Int32} {I : am_I} {L : am_L} (hz : (I 67 = fun _ => 0) ∧ (I 68 = fun _ => 0)) (h : ¬ a1 = I 51 8) : fX0_prepare_s n d a1 a2 a3 a4 I L = fX0_prepare_t n d a1 a2 a3 a4 I L := by
  unfold fX0_prepare_s fX0_prepare_t
  rw [if_neg h, if_neg h]
  unfold fX0_prepare_s_b20 fX0_prepare_t_b20 fX0_prepare_s_b21 fX0_prepare_t_b21
  rw [zz_lt, zz_lt, if_pos rfl, if_pos rfl]
  unfold fX0_prepare_s_b46 fX0_prepare_t_b46
  exact am_hzT hz
theorem rdyS {n d : Nat} {a1 a2 : Int32} {I I' : am_I} {L L' : am_L} (hz : ZS I) (h3 : ¬ I 3 0 ≤ a1) (h : fX11_makeDuelReady_t n d a1 a2 I L = some (I', L')) : fX11_makeDuelReady_s n d a1 a2 I L = some (I', L') := by
  unfold fX11_makeDuelReady_t at h
  unfold fX11_makeDuelReady_s
  have hh := am_ckE h; clear h; obtain ⟨c1, h⟩ := hh
  rw [zz_lt, zz_lt] at h
  have hh := am_ckE h; clear h; obtain ⟨c2, h⟩ := hh
  rw [zz_lt, zz_lt] at h
  have hh := am_b3E h; clear h; obtain ⟨v5, I5, L5, e5, h⟩ := hh
  obtain ⟨q1, q2⟩ := fr_far e5
  subst q1 q2
  have hh := am_b3E h; clear h; obtain ⟨v6, I6, L6, e6, h⟩ := hh
  obtain ⟨q1, q2⟩ := fr_far e6
  subst q1 q2
  rw [am_ckI c1, zz_lt, zz_lt, am_ckI c2, zz_lt, zz_lt, e5, zz_b3, e6, zz_b3, prep_eq hz.1 (hz.2 a1 c1 h3)]
  exact h
section
variable {n d : Nat}
def rl3 (kt kn ks : Int32 → Int32 → Int32 → Int32 → am_I → am_L → Option (am_I × am_L)) : Prop := ∀ a1 a2 a3 a4 I L r, ZS I → kt a1 a2 a3 a4 I L = some r → (kn a1 a2 a3 a4 I L = some r ∧ r = (I, L)) ∨ (kn a1 a2 a3 a4 I L = none ∧ ks a1 a2 a3 a4 I L = some r)
def rl65 (kt kn ks : Int32 → Int32 → Int32 → Int32 → Int32 → Int32 → am_I → am_L → Option (am_I × am_L)) : Prop := ∀ a1 a2 a3 a4 a5 a6 I L r, ZS I → ¬ I 3 0 ≤ a4 → kt a1 a2 a3 a4 a5 a6 I L = some r → (kn a1 a2 a3 a4 a5 a6 I L = some r ∧ r = (I, L)) ∨ (kn a1 a2 a3 a4 a5 a6 I L = none ∧ ks a1 a2 a3 a4 a5 a6 I L = some r)
theorem rl_65w {k3t k3n k3s : Int32 → Int32 → Int32 → Int32 → am_I → am_L → Option (am_I × am_L)} {k65t k65n k65s : Int32 → Int32 → Int32 → Int32 → Int32 → Int32 → am_I → am_L → Option (am_I × am_L)} (h3 : rl3 k3t k3n k3s) (h65 : rl65 k65t k65n k65s) : rl65 (fX11_countWinsOfSpeeds_t_b65w n d k3t k65t) (fX11_countWinsOfSpeeds_n_b65w n d k3n k65n) (fX11_countWinsOfSpeeds_s_b65w n d k3s k3t k65s k65t) := by
  intro a1 a2 a3 a4 a5 a6 I L r hz h4 h
  unfold fX11_countWinsOfSpeeds_t_b65w at h
  unfold fX11_countWinsOfSpeeds_n_b65w fX11_countWinsOfSpeeds_s_b65w
  by_cases c1 : a5 = 0
  · simp only [if_pos c1] at h ⊢
    exact h3 a1 a2 a3 (a4 + 1) I L r hz h
  · simp only [if_neg c1] at h ⊢
    by_cases c2 : I 3 0 ≤ a6
    · simp only [if_pos c2] at h ⊢
      exact h3 a1 a2 a3 (a4 + 1) I L r hz h
    · simp only [if_neg c2] at h ⊢
      have hh := am_ckE h; clear h; obtain ⟨q1, h⟩ := hh
      simp only [am_ckI q1, zz_lt] at h ⊢
      by_cases c3 : I 4 a6.toNatClampNeg = a1
      · simp only [if_pos c3] at h ⊢
        exact h65 a1 a2 a3 a4 a5 (a6 + 1) I L r hz h4 h
      · simp only [if_neg c3] at h ⊢
        by_cases c4 : I 6 a6.toNatClampNeg = a3
        · simp only [if_pos c4] at h ⊢
          have hh := am_b3E h; clear h; obtain ⟨v3, I3, L3, e3, h⟩ := hh
          obtain ⟨z1, z2⟩ := fr_canGo e3
          subst z1 z2
          simp only [e3, zz_b3] at ⊢
          by_cases c5 : v3 = 0
          · simp only [if_pos c5] at h ⊢
            exact h65 a1 a2 a3 a4 a5 (a6 + 1) _ _ r hz h4 h
          · simp only [if_neg c5] at h ⊢
            have hh := am_b2E h; clear h; obtain ⟨I4, L4, e4, h⟩ := hh
            have s4 := rdyS hz h4 e4
            refine Or.inr ⟨trivial, ?_⟩
            rw [s4, zz_b2]
            exact h
        · simp only [if_neg c4] at h ⊢
          exact h65 a1 a2 a3 a4 a5 (a6 + 1) I L r hz h4 h
theorem rl_65 {k3t k3n k3s : Int32 → Int32 → Int32 → Int32 → am_I → am_L → Option (am_I × am_L)} (h3 : rl3 k3t k3n k3s) : ∀ m, rl65 (fX11_countWinsOfSpeeds_t_b65 n d k3t m) (fX11_countWinsOfSpeeds_n_b65 n d k3n m) (fX11_countWinsOfSpeeds_s_b65 n d k3s k3t m)
  | 0 => fun _ _ _ _ _ _ _ _ _ _ _ h => by cases h
  | m + 1 => rl_65w h3 (rl_65 h3 m)
theorem rl_3w {k3t k3n k3s : Int32 → Int32 → Int32 → Int32 → am_I → am_L → Option (am_I × am_L)} (h3 : rl3 k3t k3n k3s) : rl3 (fX11_countWinsOfSpeeds_t_b3w n d k3t) (fX11_countWinsOfSpeeds_n_b3w n d k3n) (fX11_countWinsOfSpeeds_s_b3w n d k3s k3t) := by
  intro a1 a2 a3 a4 I L r hz h
  have r65 : ∀ s0, ¬ I 3 0 ≤ a4 → fX11_countWinsOfSpeeds_t_b60 n d k3t s0 a1 a2 a3 a4 I L = some r → (fX11_countWinsOfSpeeds_n_b60 n d k3n s0 a1 a2 a3 a4 I L = some r ∧ r = (I, L)) ∨ (fX11_countWinsOfSpeeds_n_b60 n d k3n s0 a1 a2 a3 a4 I L = none ∧ fX11_countWinsOfSpeeds_s_b60 n d k3s k3t s0 a1 a2 a3 a4 I L = some r) := fun s0 h4 h => rl_65 h3 n a1 a2 a3 a4 s0 0 I L r hz h4 h
  unfold fX11_countWinsOfSpeeds_t_b3w at h
  unfold fX11_countWinsOfSpeeds_n_b3w fX11_countWinsOfSpeeds_s_b3w
  by_cases c1 : I 3 0 ≤ a4
  · simp only [if_pos c1] at h ⊢
    exact Or.inl ⟨h, (Option.some.inj h).symm⟩
  · simp only [if_neg c1] at h ⊢
    have hh := am_ckE h; clear h; obtain ⟨q1, h⟩ := hh
    simp only [am_ckI q1, zz_lt] at h ⊢
    by_cases c3 : I 4 a4.toNatClampNeg = a1
    · simp only [if_pos c3] at h ⊢
      by_cases c4 : I 6 a4.toNatClampNeg = a2
      · simp only [if_pos c4] at h ⊢
        have hh := am_b3E h; clear h; obtain ⟨v3, I3, L3, e3, h⟩ := hh
        obtain ⟨z1, z2⟩ := fr_canGo e3
        subst z1 z2
        simp only [e3, zz_b3] at ⊢
        by_cases c5 : v3 = 0
        · simp only [if_pos c5] at h ⊢
          exact r65 0 c1 h
        · simp only [if_neg c5] at h ⊢
          exact r65 1 c1 h
      · simp only [if_neg c4] at h ⊢
        exact r65 0 c1 h
    · simp only [if_neg c3] at h ⊢
      exact r65 0 c1 h
theorem rl_3 : ∀ m, rl3 (fX11_countWinsOfSpeeds_t_b3 n d m) (fX11_countWinsOfSpeeds_n_b3 n d m) (fX11_countWinsOfSpeeds_s_b3 n d m)
  | 0 => fun _ _ _ _ _ _ _ _ h => by cases h
  | m + 1 => rl_3w (rl_3 m)
theorem rl_cw {a1 a2 a3 : Int32} {I : am_I} {L : am_L} {r : am_I × am_L} (hz : ZS I) (h : fX11_countWinsOfSpeeds_t n d a1 a2 a3 I L = some r) : (fX11_countWinsOfSpeeds_n n d a1 a2 a3 I L = some r ∧ r = (I, L)) ∨ (fX11_countWinsOfSpeeds_n n d a1 a2 a3 I L = none ∧ fX11_countWinsOfSpeeds_s n d a1 a2 a3 I L = some r) := rl_3 n a1 a2 a3 0 I L r hz h
def rl26 (kt kn ks : Int32 → Int32 → am_I → am_L → Option (am_I × am_L)) : Prop := ∀ a1 a2 I L r, ZS I → kt a1 a2 I L = some r → (kn a1 a2 I L = some r ∧ r = (I, L)) ∨ (kn a1 a2 I L = none ∧ ks a1 a2 I L = some r)
def rl33 (kt kn ks : Int32 → Int32 → Int32 → am_I → am_L → Option (am_I × am_L)) : Prop := ∀ a1 a2 a3 I L r, ZS I → kt a1 a2 a3 I L = some r → (kn a1 a2 a3 I L = some r ∧ r = (I, L)) ∨ (kn a1 a2 a3 I L = none ∧ ks a1 a2 a3 I L = some r)
theorem rl_33w {k26t k26n k26s : Int32 → Int32 → am_I → am_L → Option (am_I × am_L)} {k33t k33n k33s : Int32 → Int32 → Int32 → am_I → am_L → Option (am_I × am_L)} (h26 : rl26 k26t k26n k26s) (h33 : rl33 k33t k33n k33s) : rl33 (fX11_countWins_t_b33w n d k26t k33t) (fX11_countWins_n_b33w n d k26n k33n) (fX11_countWins_s_b33w n d k26s k26t k33s k33t) := by
  intro a1 a2 a3 I L r hz h
  unfold fX11_countWins_t_b33w at h
  unfold fX11_countWins_n_b33w fX11_countWins_s_b33w
  by_cases c1 : (5 : Int32) < a3
  · simp only [if_pos c1] at h ⊢
    exact h26 a1 (a2 + 1) I L r hz h
  · simp only [if_neg c1] at h ⊢
    have hh := am_b2E h; clear h; obtain ⟨I2, L2, e2, h⟩ := hh
    rcases rl_cw hz e2 with ⟨q1, q2⟩ | ⟨q1, q2⟩
    · have z1 : I2 = I := congrArg Prod.fst q2
      have z2 : L2 = L := congrArg Prod.snd q2
      subst z1 z2
      simp only [q1, zz_b2]
      rcases h33 a1 a2 (a3 + 1) I2 L2 r hz h with ⟨w1, w2⟩ | ⟨w1, w2⟩
      · exact Or.inl ⟨w1, w2⟩
      · refine Or.inr ⟨w1, ?_⟩
        have e : fX11_countWins_t_b45 n d k26s k33s a1 a2 a3 I2 L2 = some r := w2
        rw [e]
        rfl
    · simp only [q1]
      refine Or.inr ⟨rfl, ?_⟩
      show am_b2 (fX11_countWinsOfSpeeds_s n d a1 a2 a3 I L) (fun I2 L2 => fX11_countWins_t_b45 n d k26t k33t a1 a2 a3 I2 L2) = some r
      rw [q2, zz_b2]
      exact h
theorem rl_33 {k26t k26n k26s : Int32 → Int32 → am_I → am_L → Option (am_I × am_L)} (h26 : rl26 k26t k26n k26s) : ∀ m, rl33 (fX11_countWins_t_b33 n d k26t m) (fX11_countWins_n_b33 n d k26n m) (fX11_countWins_s_b33 n d k26s k26t m)
  | 0 => fun _ _ _ _ _ _ _ h => by cases h
  | m + 1 => rl_33w h26 (rl_33 h26 m)
theorem rl_26w {k26t k26n k26s : Int32 → Int32 → am_I → am_L → Option (am_I × am_L)} (h26 : rl26 k26t k26n k26s) : rl26 (fX11_countWins_t_b26w n d k26t) (fX11_countWins_n_b26w n d k26n) (fX11_countWins_s_b26w n d k26s k26t) := by
  intro a1 a2 I L r hz h
  unfold fX11_countWins_t_b26w at h
  unfold fX11_countWins_n_b26w fX11_countWins_s_b26w
  by_cases c1 : (5 : Int32) < a2
  · simp only [if_pos c1] at h ⊢
    exact Or.inl ⟨h, (Option.some.inj h).symm⟩
  · simp only [if_neg c1] at h ⊢
    exact rl_33 h26 n a1 a2 1 I L r hz h
theorem rl_26 : ∀ m, rl26 (fX11_countWins_t_b26 n d m) (fX11_countWins_n_b26 n d m) (fX11_countWins_s_b26 n d m)
  | 0 => fun _ _ _ _ _ _ h => by cases h
  | m + 1 => rl_26w (rl_26 m)
theorem ZS_66 {I : am_I} (h : ZS I) (k : Nat) (v : Int32) : ZS (am_up I 66 k v) := by
  unfold ZS at *
  rw [am_up_ne (by omega), am_up_ne (by omega), am_up_ne (by omega), am_up_ne (by omega), am_up_ne (by omega)]
  exact h
theorem rl_2 : ∀ (m : Nat) (a1 a2 : Int32) (I : am_I) (L : am_L) (r : am_I × am_L), ZS I → fX11_countWins_t_b2 n d m a1 a2 I L = some r → fX11_countWins_n_b2 n d m a1 a2 I L = some r ∨ fX11_countWins_s_b2 n d m a1 a2 I L = some r
  | 0, _, _, _, _, _, _, h => by cases h
  | m + 1, a1, a2, I, L, r, hz, h => by
    have h : fX11_countWins_t_b2w n d (fX11_countWins_t_b2 n d m) a1 a2 I L = some r := h
    show fX11_countWins_n_b2w n d (fX11_countWins_n_b2 n d m) a1 a2 I L = some r ∨ fX11_countWins_s_b2w n d (fX11_countWins_s_b2 n d m) a1 a2 I L = some r
    unfold fX11_countWins_t_b2w at h
    unfold fX11_countWins_n_b2w fX11_countWins_s_b2w
    by_cases c1 : (8 : Int32) ≤ a2
    · simp only [if_pos c1] at h ⊢
      rcases rl_26 n a1 1 I L r hz h with ⟨w, _⟩ | ⟨_, w⟩
      · exact Or.inl w
      · exact Or.inr w
    · simp only [if_neg c1] at h ⊢
      have hh := am_ckE h; clear h; obtain ⟨q1, h⟩ := hh
      simp only [am_ckI q1, zz_lt] at h ⊢
      exact rl_2 m a1 (a2 + 1) _ L r (ZS_66 hz _ _) h
theorem rl_count {a1 : Int32} {I : am_I} {L : am_L} {r : am_I × am_L} (hz : ZS I) (h : fX11_countWins_t n d a1 I L = some r) : fX11_countWins_n n d a1 I L = some r ∨ fX11_countWins_s n d a1 I L = some r := rl_2 n a1 0 I L r hz h
theorem fr_side {a : Int32} {I I' : am_I} {L L' : am_L} {v : Int32} (h : fX11_isSideOfWar n d a I L = some (v, I', L')) : I' = I ∧ L' = L := by
  unfold fX11_isSideOfWar fX11_isSideOfWar_b19 at h
  split at h
  · cases h; exact ⟨rfl, rfl⟩
  · split at h
    · cases h; exact ⟨rfl, rfl⟩
    · split at h <;> (cases h; exact ⟨rfl, rfl⟩)
theorem rl_champion {a1 : Int32} {I : am_I} {L : am_L} {r : Int32 × am_I × am_L} (hz : ZS I) (h : fX11_champion_t n d a1 I L = some r) : fX11_champion_n n d a1 I L = some r ∨ fX11_champion_s n d a1 I L = some r := by
  unfold fX11_champion_t at h
  unfold fX11_champion_n fX11_champion_s
  have hh := am_b3E h; clear h; obtain ⟨v1, I1, L1, e1, h⟩ := hh
  obtain ⟨z1, z2⟩ := fr_side e1
  subst z1 z2
  simp only [e1, zz_b3]
  by_cases c : v1 = 0
  · simp only [if_pos c] at h ⊢
    exact Or.inl h
  · simp only [if_neg c] at h ⊢
    have hh := am_b2E h; clear h; obtain ⟨I2, L2, e2, h⟩ := hh
    rcases rl_count hz e2 with w | w
    · exact Or.inl (by rw [w, zz_b2]; exact h)
    · exact Or.inr (by rw [w, zz_b2]; exact h)
theorem rl_victors {a1 : Int32} {I : am_I} {L : am_L} {r : Int32 × am_I × am_L} (hz : ZS I) (h : fX11_victors_t n d a1 I L = some r) : fX11_victors_n n d a1 I L = some r ∨ fX11_victors_s n d a1 I L = some r := by
  unfold fX11_victors_t at h
  unfold fX11_victors_n fX11_victors_s
  have hh := am_b3E h; clear h; obtain ⟨v1, I1, L1, e1, h⟩ := hh
  obtain ⟨z1, z2⟩ := fr_side e1
  subst z1 z2
  simp only [e1, zz_b3]
  by_cases c : v1 = 0
  · simp only [if_pos c] at h ⊢
    exact Or.inl h
  · simp only [if_neg c] at h ⊢
    have hh := am_b2E h; clear h; obtain ⟨I2, L2, e2, h⟩ := hh
    rcases rl_count hz e2 with w | w
    · exact Or.inl (by rw [w, zz_b2]; exact h)
    · exact Or.inr (by rw [w, zz_b2]; exact h)
theorem fr_has {a : Int32} {I I' : am_I} {L L' : am_L} {v : Int32} (h : fX9_hasMan_war n d a I L = some (v, I', L')) : (I' = I ∧ L' = L) ∧ (¬ v = 0 → ¬ I 3 0 ≤ a) := by
  unfold fX9_hasMan_war at h
  split at h
  · cases h; exact ⟨⟨rfl, rfl⟩, fun z => absurd rfl z⟩
  · split at h
    · cases h; exact ⟨⟨rfl, rfl⟩, fun z => absurd rfl z⟩
    · rename_i q
      split at h
      · cases h; exact ⟨⟨rfl, rfl⟩, fun z => absurd rfl z⟩
      · cases h; exact ⟨⟨rfl, rfl⟩, fun _ => q⟩
theorem fr_may {a b : Int32} {I I' : am_I} {L L' : am_L} {v : Int32} (h : fX11_mayDuel n d a b I L = some (v, I', L')) : (I' = I ∧ L' = L) ∧ (¬ v = 0 → ¬ I 3 0 ≤ a) := by
  unfold fX11_mayDuel at h
  have hh := am_b3E h; clear h; obtain ⟨v1, I1, L1, e1, h⟩ := hh
  obtain ⟨⟨z1, z2⟩, k1⟩ := fr_has e1
  subst z1 z2
  split at h
  · cases h; exact ⟨⟨rfl, rfl⟩, fun z => absurd rfl z⟩
  · rename_i q
    have hh := am_b3E h; clear h; obtain ⟨v2, I2, L2, e2, h⟩ := hh
    obtain ⟨⟨z1, z2⟩, _⟩ := fr_has e2
    subst z1 z2
    refine ⟨?_, fun _ => k1 q⟩
    split at h
    · cases h; exact ⟨rfl, rfl⟩
    · split at h
      · cases h; exact ⟨rfl, rfl⟩
      · have hh := am_b3E h; clear h; obtain ⟨v3, I3, L3, e3, h⟩ := hh
        obtain ⟨z1, z2⟩ := fr_canGo e3
        subst z1 z2
        split at h
        · cases h; exact ⟨rfl, rfl⟩
        · have hh := am_b3E h; clear h; obtain ⟨v4, I4, L4, e4, h⟩ := hh
          obtain ⟨z1, z2⟩ := fr_canGo e4
          subst z1 z2
          split at h <;> (cases h; exact ⟨rfl, rfl⟩)
theorem rl_duel {a1 a2 a3 : Int32} {I : am_I} {L : am_L} {r : Int32 × am_I × am_L} (hz : ZS I) (h : fX11_duel_t n d a1 a2 a3 I L = some r) : fX11_duel_n n d a1 a2 a3 I L = some r ∨ fX11_duel_s n d a1 a2 a3 I L = some r := by
  unfold fX11_duel_t at h
  unfold fX11_duel_n fX11_duel_s
  have hh := am_b3E h; clear h; obtain ⟨v1, I1, L1, e1, h⟩ := hh
  obtain ⟨⟨z1, z2⟩, k⟩ := fr_may e1
  subst z1 z2
  simp only [e1, zz_b3]
  by_cases c : v1 = 0
  · simp only [if_pos c] at h ⊢
    exact Or.inl h
  · simp only [if_neg c] at h ⊢
    by_cases c2 : a3 < 0
    · simp only [if_pos c2] at h ⊢
      exact Or.inl h
    · simp only [if_neg c2] at h ⊢
      by_cases c3 : a3 ≤ (2 : Int32)
      · simp only [if_pos c3] at h ⊢
        have hh := am_b2E h; clear h; obtain ⟨I2, L2, e2, h⟩ := hh
        have s := rdyS hz (k c) e2
        exact Or.inr (by rw [s, zz_b2]; exact h)
      · simp only [if_neg c3] at h ⊢
        exact Or.inl h
theorem rl_treaty {a1 a2 : Int32} {I : am_I} {L : am_L} {r : Int32 × am_I × am_L} (hz : ZS I) (h : fX11_treaty_t n d a1 a2 I L = some r) : fX11_treaty_n n d a1 a2 I L = some r ∨ fX11_treaty_s n d a1 a2 I L = some r := by
  unfold fX11_treaty_t at h
  unfold fX11_treaty_n fX11_treaty_s
  have hh := am_b3E h; clear h; obtain ⟨v1, I1, L1, e1, h⟩ := hh
  obtain ⟨⟨z1, z2⟩, k⟩ := fr_may e1
  subst z1 z2
  simp only [e1, zz_b3]
  by_cases c : v1 = 0
  · simp only [if_pos c] at h ⊢
    exact Or.inl h
  · simp only [if_neg c] at h ⊢
    have hh := am_b2E h; clear h; obtain ⟨I2, L2, e2, h⟩ := hh
    have s := rdyS hz (k c) e2
    exact Or.inr (by rw [s, zz_b2]; exact h)
end
