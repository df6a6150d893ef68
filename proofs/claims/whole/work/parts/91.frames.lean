/-! WHAT THE DUELS' RUNS WITHOUT ROWS LEAVE ALONE: the speed they are ready for -/
section
variable {n d : Nat}
theorem fr_ch19 : ∀ (F : Nat) (a1 a2 a3 : Int32) (I I' : am_I) (L L' : am_L) (v : Int32), fX11_champion_t_b19 n d F a1 a2 a3 I L = some (v, I', L') → I' = I
  | 0, _, _, _, _, _, _, _, _, h => by cases h
  | F + 1, a1, a2, a3, I, I', L, L', v, h0 => by
    have h : fX11_champion_t_b19w n d (fX11_champion_t_b19 n d F) a1 a2 a3 I L = some (v, I', L') := h0
    clear h0
    unfold fX11_champion_t_b19w fX11_champion_t_b74 fX11_champion_t_b76 at h
    simp only [zz_lt] at h
    by_cases c1 : I 3 0 ≤ a3
    · rw [if_pos c1] at h
      cases h; rfl
    · rw [if_neg c1] at h
      have hh := am_ckE h; clear h; obtain ⟨_, h⟩ := hh
      by_cases c2 : I 4 a3.toNatClampNeg = a1
      · rw [if_pos c2] at h
        have hh := am_b3E h; clear h; obtain ⟨v1, I1, L1, e1, h⟩ := hh
        obtain ⟨z1, z2⟩ := fr_canGo e1
        subst z1 z2
        by_cases c3 : v1 = 0
        · rw [if_pos c3] at h
          exact fr_ch19 F _ _ _ _ _ _ _ _ h
        · rw [if_neg c3] at h
          by_cases c4 : a2 = (-1 : Int32)
          · rw [if_pos c4] at h
            exact fr_ch19 F _ _ _ _ _ _ _ _ h
          · rw [if_neg c4] at h
            have hh := am_ckE h; clear h; obtain ⟨_, h⟩ := hh
            have hh := am_ckE h; clear h; obtain ⟨_, h⟩ := hh
            split at h
            · exact fr_ch19 F _ _ _ _ _ _ _ _ h
            · exact fr_ch19 F _ _ _ _ _ _ _ _ h
      · rw [if_neg c2] at h
        exact fr_ch19 F _ _ _ _ _ _ _ _ h
theorem fr_vi73 : ∀ (F : Nat) (a1 a2 a3 a4 : Int32) (I I' : am_I) (L L' : am_L) (v : Int32), fX11_victors_t_b73 n d F a1 a2 a3 a4 I L = some (v, I', L') → I' = I
  | 0, _, _, _, _, _, _, _, _, _, h => by cases h
  | F + 1, a1, a2, a3, a4, I, I', L, L', v, h0 => by
    have h : fX11_victors_t_b73w n d (fX11_victors_t_b73 n d F) a1 a2 a3 a4 I L = some (v, I', L') := h0
    clear h0
    unfold fX11_victors_t_b73w fX11_victors_t_b133 at h
    simp only [zz_lt] at h
    by_cases c1 : I 3 0 ≤ a4
    · rw [if_pos c1] at h
      cases h; rfl
    · rw [if_neg c1] at h
      have hh := am_ckE h; clear h; obtain ⟨_, h⟩ := hh
      by_cases c2 : I 4 a4.toNatClampNeg = a1
      · rw [if_pos c2] at h
        have hh := am_b3E h; clear h; obtain ⟨v1, I1, L1, e1, h⟩ := hh
        obtain ⟨z1, z2⟩ := fr_canGo e1
        subst z1 z2
        by_cases c3 : v1 = 0
        · rw [if_pos c3] at h
          exact fr_vi73 F _ _ _ _ _ _ _ _ _ h
        · rw [if_neg c3] at h
          by_cases c4 : a2 ≤ 0
          · rw [if_pos c4] at h
            exact fr_vi73 F _ _ _ _ _ _ _ _ _ h
          · rw [if_neg c4] at h
            have hh := am_ckE h; clear h; obtain ⟨_, h⟩ := hh
            split at h
            · exact fr_vi73 F _ _ _ _ _ _ _ _ _ h
            · exact fr_vi73 F _ _ _ _ _ _ _ _ _ h
      · rw [if_neg c2] at h
        exact fr_vi73 F _ _ _ _ _ _ _ _ _ h
theorem fr_vi19 : ∀ (F : Nat) (a1 a2 a3 : Int32) (I I' : am_I) (L L' : am_L) (v : Int32), fX11_victors_t_b19 n d F a1 a2 a3 I L = some (v, I', L') → I' = I
  | 0, _, _, _, _, _, _, _, _, h => by cases h
  | F + 1, a1, a2, a3, I, I', L, L', v, h0 => by
    have h : fX11_victors_t_b19w n d (fX11_victors_t_b19 n d F) a1 a2 a3 I L = some (v, I', L') := h0
    clear h0
    unfold fX11_victors_t_b19w fX11_victors_t_b59 fX11_victors_t_b60 at h
    simp only [zz_lt] at h
    by_cases c1 : I 3 0 ≤ a3
    · rw [if_pos c1] at h
      exact fr_vi73 _ _ _ _ _ _ _ _ _ _ h
    · rw [if_neg c1] at h
      have hh := am_ckE h; clear h; obtain ⟨_, h⟩ := hh
      by_cases c2 : I 4 a3.toNatClampNeg = a1
      · rw [if_pos c2] at h
        exact fr_vi19 F _ _ _ _ _ _ _ _ h
      · rw [if_neg c2] at h
        have hh := am_b3E h; clear h; obtain ⟨v1, I1, L1, e1, h⟩ := hh
        obtain ⟨z1, z2⟩ := fr_canGo e1
        subst z1 z2
        split at h
        · exact fr_vi19 F _ _ _ _ _ _ _ _ h
        · exact fr_vi19 F _ _ _ _ _ _ _ _ h
theorem rm_2 : ∀ (m : Nat) (a1 a2 : Int32) (I : am_I) (L : am_L) (r : am_I × am_L), ZS I → fX11_countWins_t_b2 n d m a1 a2 I L = some r → (fX11_countWins_n_b2 n d m a1 a2 I L = some r ∧ r.1 51 8 = I 51 8) ∨ fX11_countWins_s_b2 n d m a1 a2 I L = some r
  | 0, _, _, _, _, _, _, h => by cases h
  | m + 1, a1, a2, I, L, r, hz, h => by
    have h : fX11_countWins_t_b2w n d (fX11_countWins_t_b2 n d m) a1 a2 I L = some r := h
    show (fX11_countWins_n_b2w n d (fX11_countWins_n_b2 n d m) a1 a2 I L = some r ∧ _) ∨ fX11_countWins_s_b2w n d (fX11_countWins_s_b2 n d m) a1 a2 I L = some r
    unfold fX11_countWins_t_b2w at h
    unfold fX11_countWins_n_b2w fX11_countWins_s_b2w
    by_cases c1 : (8 : Int32) ≤ a2
    · simp only [if_pos c1] at h ⊢
      rcases rl_26 n a1 1 I L r hz h with ⟨w, w2⟩ | ⟨_, w⟩
      · exact Or.inl ⟨w, by rw [w2]⟩
      · exact Or.inr w
    · simp only [if_neg c1] at h ⊢
      have hh := am_ckE h; clear h; obtain ⟨q1, h⟩ := hh
      simp only [am_ckI q1, zz_lt] at h ⊢
      rcases rm_2 m a1 (a2 + 1) _ L r (ZS_66 hz _ _) h with ⟨w, w2⟩ | w
      · exact Or.inl ⟨w, by rw [w2, am_up_ne (by omega)]⟩
      · exact Or.inr w
theorem rm_count {a1 : Int32} {I : am_I} {L : am_L} {r : am_I × am_L} (hz : ZS I) (h : fX11_countWins_t n d a1 I L = some r) : (fX11_countWins_n n d a1 I L = some r ∧ r.1 51 8 = I 51 8) ∨ fX11_countWins_s n d a1 I L = some r := rm_2 n a1 0 I L r hz h
theorem rm_champion {a1 : Int32} {I : am_I} {L : am_L} {r : Int32 × am_I × am_L} (hz : ZS I) (h : fX11_champion_t n d a1 I L = some r) : (fX11_champion_n n d a1 I L = some r ∧ r.2.1 51 8 = I 51 8) ∨ fX11_champion_s n d a1 I L = some r := by
  unfold fX11_champion_t at h
  unfold fX11_champion_n fX11_champion_s
  have hh := am_b3E h; clear h; obtain ⟨v1, I1, L1, e1, h⟩ := hh
  obtain ⟨z1, z2⟩ := fr_side e1
  subst z1 z2
  simp only [e1, zz_b3]
  by_cases c : v1 = 0
  · simp only [if_pos c] at h ⊢
    exact Or.inl ⟨h, by cases h; rfl⟩
  · simp only [if_neg c] at h ⊢
    have hh := am_b2E h; clear h; obtain ⟨I2, L2, e2, h⟩ := hh
    rcases rm_count hz e2 with ⟨w, w2⟩ | w
    · refine Or.inl ⟨by rw [w, zz_b2]; exact h, ?_⟩
      obtain ⟨v, I', L'⟩ := r
      have : I' = I2 := fr_ch19 _ _ _ _ _ _ _ _ _ h
      show I' 51 8 = _
      rw [this]
      exact w2
    · exact Or.inr (by rw [w, zz_b2]; exact h)
theorem rm_victors {a1 : Int32} {I : am_I} {L : am_L} {r : Int32 × am_I × am_L} (hz : ZS I) (h : fX11_victors_t n d a1 I L = some r) : (fX11_victors_n n d a1 I L = some r ∧ r.2.1 51 8 = I 51 8) ∨ fX11_victors_s n d a1 I L = some r := by
  unfold fX11_victors_t at h
  unfold fX11_victors_n fX11_victors_s
  have hh := am_b3E h; clear h; obtain ⟨v1, I1, L1, e1, h⟩ := hh
  obtain ⟨z1, z2⟩ := fr_side e1
  subst z1 z2
  simp only [e1, zz_b3]
  by_cases c : v1 = 0
  · simp only [if_pos c] at h ⊢
    exact Or.inl ⟨h, by cases h; rfl⟩
  · simp only [if_neg c] at h ⊢
    have hh := am_b2E h; clear h; obtain ⟨I2, L2, e2, h⟩ := hh
    rcases rm_count hz e2 with ⟨w, w2⟩ | w
    · refine Or.inl ⟨by rw [w, zz_b2]; exact h, ?_⟩
      obtain ⟨v, I', L'⟩ := r
      have : I' = I2 := fr_vi19 _ _ _ _ _ _ _ _ _ h
      show I' 51 8 = _
      rw [this]
      exact w2
    · exact Or.inr (by rw [w, zz_b2]; exact h)
theorem rm_duel {a1 a2 a3 : Int32} {I : am_I} {L : am_L} {r : Int32 × am_I × am_L} (hz : ZS I) (h : fX11_duel_t n d a1 a2 a3 I L = some r) : (fX11_duel_n n d a1 a2 a3 I L = some r ∧ r.2.1 51 8 = I 51 8) ∨ fX11_duel_s n d a1 a2 a3 I L = some r := by
  rcases rl_duel hz h with w | w
  · refine Or.inl ⟨w, ?_⟩
    unfold fX11_duel_n at w
    have hh := am_b3E w; clear w; obtain ⟨v1, I1, L1, e1, w⟩ := hh
    obtain ⟨⟨z1, z2⟩, k⟩ := fr_may e1
    subst z1 z2
    by_cases c : v1 = 0
    · rw [if_pos c] at w
      cases w; rfl
    · rw [if_neg c] at w
      by_cases c2 : a3 < 0
      · rw [if_pos c2] at w
        cases w; rfl
      · rw [if_neg c2] at w
        by_cases c3 : a3 ≤ (2 : Int32)
        · rw [if_pos c3] at w
          cases w
        · rw [if_neg c3] at w
          cases w; rfl
  · exact Or.inr w
theorem rm_treaty {a1 a2 : Int32} {I : am_I} {L : am_L} {r : Int32 × am_I × am_L} (hz : ZS I) (h : fX11_treaty_t n d a1 a2 I L = some r) : (fX11_treaty_n n d a1 a2 I L = some r ∧ r.2.1 51 8 = I 51 8) ∨ fX11_treaty_s n d a1 a2 I L = some r := by
  rcases rl_treaty hz h with w | w
  · refine Or.inl ⟨w, ?_⟩
    unfold fX11_treaty_n at w
    have hh := am_b3E w; clear w; obtain ⟨v1, I1, L1, e1, w⟩ := hh
    obtain ⟨⟨z1, z2⟩, k⟩ := fr_may e1
    subst z1 z2
    by_cases c : v1 = 0
    · rw [if_pos c] at w
      cases w; rfl
    · rw [if_neg c] at w
      cases w
  · exact Or.inr w
end
