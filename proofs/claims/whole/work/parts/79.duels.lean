/-! PURE: duels: the class's tables. -/
theorem pl_ex (g : Nat → Nat → Nat) : ∀ s p, p < lwS g s → ∃ a r, a < s ∧ r ≤ gRest g a ∧ p = plc g a r
  | 0, p, h => by have : p < 0 := h; omega
  | s + 1, p, h => by
    have h' : p < lwS g s + gRest g s + 1 := h
    by_cases c : p < lwS g s
    · obtain ⟨a, r, h1, h2, h3⟩ := pl_ex g s p c
      exact ⟨a, r, by omega, h2, h3⟩
    · exact ⟨s, p - lwS g s, by omega, by omega, by unfold plc; omega⟩
theorem plc_inj {g : Nat → Nat → Nat} {a r b q : Nat} (hr : r ≤ gRest g a) (hq : q ≤ gRest g b) (e : plc g a r = plc g b q) : a = b ∧ r = q := by
  have k : a = b := by
    rcases Nat.lt_trichotomy a b with z | z | z
    · have := plc_lt g z; unfold plc at *; omega
    · exact z
    · have := plc_lt g z; unfold plc at *; omega
  subst k
  unfold plc at e
  exact ⟨rfl, by omega⟩
theorem pl_1 {g : Nat → Nat → Nat} (hg : GW g) {p : Nat} (h : p < lwS g 21) (hp : 1 ≤ p) : ∃ a r, (1 ≤ a ∧ a ≤ 20) ∧ r ≤ gRest g a ∧ p = plc g a r := by
  obtain ⟨a, r, h1, h2, h3⟩ := pl_ex g 21 p h
  refine ⟨a, r, ⟨?_, by omega⟩, h2, h3⟩
  by_cases c : a = 0
  · subst c
    rw [gRest_0 hg] at h2
    have e : plc g 0 r = 0 + r := rfl
    omega
  · omega
def SO (I : am_I) : Prop := ∀ p, p < 75 → ∃ k, k ≤ 20 ∧ I 54 p = nI k
theorem DL_k {g : Nat → Nat → Nat} {I I' : am_I} (h : DL I g) (e2 : I' 52 = I 52) (e3 : I' 53 = I 53) (e4 : I' 54 = I 54) (e5 : I' 55 = I 55) : DL I' g := by
  unfold DL at *
  rw [e2, e3, e4, e5]
  exact h
theorem SO_k {I I' : am_I} (h : SO I) (e4 : I' 54 = I 54) : SO I' := by
  unfold SO at *
  rw [e4]
  exact h
theorem prs_at {g : Nat → Nat → Nat} (hg : GW g) (x b : Nat) : lwS g (b - x) + gRest g (b - x) = prs g x b := by
  unfold prs
  by_cases c : b ≤ x
  · rw [if_pos c, show b - x = 0 by omega, gRest_0 hg]; rfl
  · rw [if_neg c]; rfl
theorem fp_56 {g : Nat → Nat → Nat} (hg : GW g) (n d : Nat) (L : am_L) {x : Nat} (hx : x ≤ 5) : ∀ (j i F : Nat) (I : am_I), i + j = 75 → j < F → SO I → DL I g → (∀ b q, b ≤ 20 → q ≤ gRest g b → plc g b q < i → I 56 (plc g b q) = nI (prs g x b)) → ∃ I', fX0_findPressed_c51_pressedByFirst_b2 n d F (nI x) (nI i) I L = some (I', L) ∧ (∀ b q, b ≤ 20 → q ≤ gRest g b → I' 56 (plc g b q) = nI (prs g x b)) ∧ (∀ k, k ≠ 56 → I' k = I k)
  | _, _, 0, _, _, f, _, _, _ => by omega
  | 0, i, F + 1, I, e, f, hs, hD, h => by
    refine ⟨I, ?_, fun b q hb hq => h b q hb hq (by have := plc_le hg hb hq; omega), fun _ _ => rfl⟩
    have e1 : i = 75 := by omega
    subst e1
    simp (disch := omega) only [fX0_findPressed_c51_pressedByFirst_b2, fX0_findPressed_c51_pressedByFirst_b2w, zz_lt, li_0, li_1, li_2, li_3, li_4, li_5, li_6, li_7, li_8, li_9, li_10, li_11, li_12, li_15, li_16, li_20, li_21, li_24, li_25, li_26, li_32, li_33, li_38, li_40, li_41, li_42, li_43, li_45, li_47, li_48, li_57, li_58, li_59, li_60, li_61, li_62, li_63, li_74, li_75, li_84, li_91, li_93, li_98, li_100, li_103, li_105, li_107, li_109, li_110, li_111, li_112, li_115, li_118, li_119, li_120, li_121, li_124, li_140, li_180, li_206, li_240, li_255, li_420, li_520, li_999, li_1000, li_1771, li_8240, li_9999, li_88200, li_1000000, li_2097151, li_31, nI_add, pk_mul, zz_sub, zz_an, nI_clamp, zz_leT, zz_leF, zz_ltT, zz_ltF, zz_eqF, zz_eqT, zz_m1, zz_m2, zz_m3, zz_m4, zz_m5, zz_m6, zz_ck, zz_bl, zz_b3, zz_b2, zz_shl, zz_bt0, zz_bt1, pk_div, Nat.zero_add, Nat.add_zero, if_true, if_false, reduceIte, Nat.mul_zero, zz_or0, zz_inT, zz_inF]
  | j + 1, i, F + 1, I, e, f, hs, hD, h => by
    obtain ⟨k, hk, h54⟩ := hs i (by omega)
    have mx := J_max0 n d k x I L (by omega) (by omega)
    have h53 := (hD (k - x) (by omega)).2.1
    rw [prs_at hg x k] at h53
    obtain ⟨I', w1, w2, w3⟩ := fp_56 hg n d L hx j (i + 1) F (am_up I 56 i (nI (prs g x k))) (by omega) (by omega) (SO_k hs (am_up_ne (by omega))) (DL_k hD (am_up_ne (by omega)) (am_up_ne (by omega)) (am_up_ne (by omega)) (am_up_ne (by omega))) (fun b q hb hq hp => by
      by_cases c : plc g b q = i
      · have e4 := ((hD b hb).2.2 q hq).1
        have e5 : I 54 i = nI b := by rw [← c]; exact e4
        rw [h54] at e5
        have e6 : k = b := (nI_eq (by omega) (by omega)).mp e5
        rw [c, up_s rfl, e6]
      · rw [up_n c]; exact h b q hb hq (by omega))
    refine ⟨I', ?_, w2, fun k hk => (w3 k hk).trans (am_up_ne hk)⟩
    rw [← w1]
    simp (disch := omega) only [fX0_findPressed_c51_pressedByFirst_b2, fX0_findPressed_c51_pressedByFirst_b2w, zz_lt, li_0, li_1, li_2, li_3, li_4, li_5, li_6, li_7, li_8, li_9, li_10, li_11, li_12, li_15, li_16, li_20, li_21, li_24, li_25, li_26, li_32, li_33, li_38, li_40, li_41, li_42, li_43, li_45, li_47, li_48, li_57, li_58, li_59, li_60, li_61, li_62, li_63, li_74, li_75, li_84, li_91, li_93, li_98, li_100, li_103, li_105, li_107, li_109, li_110, li_111, li_112, li_115, li_118, li_119, li_120, li_121, li_124, li_140, li_180, li_206, li_240, li_255, li_420, li_520, li_999, li_1000, li_1771, li_8240, li_9999, li_88200, li_1000000, li_2097151, li_31, nI_add, pk_mul, zz_an, nI_clamp, zz_leT, zz_leF, zz_ltT, zz_ltF, zz_eqF, zz_eqT, zz_m1, zz_m2, zz_m3, zz_m4, zz_m5, zz_m6, zz_ck, zz_bl, zz_b3, zz_b2, zz_shl, zz_bt0, zz_bt1, pk_div, Nat.zero_add, Nat.add_zero, if_true, if_false, reduceIte, Nat.mul_zero, zz_or0, zz_inT, zz_inF, h54, mx, h53]
theorem fp_57 {g : Nat → Nat → Nat} (hg : GW g) (n d : Nat) (L : am_L) {x : Nat} (hx : x ≤ 5) : ∀ (j i F : Nat) (I : am_I), i + j = 75 → j < F → SO I → DL I g → (∀ b q, b ≤ 20 → q ≤ gRest g b → plc g b q < i → I 57 (plc g b q) = nI (prs g x b)) → ∃ I', fX0_findPressed_c51_pressedByOther_b2 n d F (nI x) (nI i) I L = some (I', L) ∧ (∀ b q, b ≤ 20 → q ≤ gRest g b → I' 57 (plc g b q) = nI (prs g x b)) ∧ (∀ k, k ≠ 57 → I' k = I k)
  | _, _, 0, _, _, f, _, _, _ => by omega
  | 0, i, F + 1, I, e, f, hs, hD, h => by
    refine ⟨I, ?_, fun b q hb hq => h b q hb hq (by have := plc_le hg hb hq; omega), fun _ _ => rfl⟩
    have e1 : i = 75 := by omega
    subst e1
    simp (disch := omega) only [fX0_findPressed_c51_pressedByOther_b2, fX0_findPressed_c51_pressedByOther_b2w, zz_lt, li_0, li_1, li_2, li_3, li_4, li_5, li_6, li_7, li_8, li_9, li_10, li_11, li_12, li_15, li_16, li_20, li_21, li_24, li_25, li_26, li_32, li_33, li_38, li_40, li_41, li_42, li_43, li_45, li_47, li_48, li_57, li_58, li_59, li_60, li_61, li_62, li_63, li_74, li_75, li_84, li_91, li_93, li_98, li_100, li_103, li_105, li_107, li_109, li_110, li_111, li_112, li_115, li_118, li_119, li_120, li_121, li_124, li_140, li_180, li_206, li_240, li_255, li_420, li_520, li_999, li_1000, li_1771, li_8240, li_9999, li_88200, li_1000000, li_2097151, li_31, nI_add, pk_mul, zz_sub, zz_an, nI_clamp, zz_leT, zz_leF, zz_ltT, zz_ltF, zz_eqF, zz_eqT, zz_m1, zz_m2, zz_m3, zz_m4, zz_m5, zz_m6, zz_ck, zz_bl, zz_b3, zz_b2, zz_shl, zz_bt0, zz_bt1, pk_div, Nat.zero_add, Nat.add_zero, if_true, if_false, reduceIte, Nat.mul_zero, zz_or0, zz_inT, zz_inF]
  | j + 1, i, F + 1, I, e, f, hs, hD, h => by
    obtain ⟨k, hk, h54⟩ := hs i (by omega)
    have mx := J_max0 n d k x I L (by omega) (by omega)
    have h53 := (hD (k - x) (by omega)).2.1
    rw [prs_at hg x k] at h53
    obtain ⟨I', w1, w2, w3⟩ := fp_57 hg n d L hx j (i + 1) F (am_up I 57 i (nI (prs g x k))) (by omega) (by omega) (SO_k hs (am_up_ne (by omega))) (DL_k hD (am_up_ne (by omega)) (am_up_ne (by omega)) (am_up_ne (by omega)) (am_up_ne (by omega))) (fun b q hb hq hp => by
      by_cases c : plc g b q = i
      · have e4 := ((hD b hb).2.2 q hq).1
        have e5 : I 54 i = nI b := by rw [← c]; exact e4
        rw [h54] at e5
        have e6 : k = b := (nI_eq (by omega) (by omega)).mp e5
        rw [c, up_s rfl, e6]
      · rw [up_n c]; exact h b q hb hq (by omega))
    refine ⟨I', ?_, w2, fun k hk => (w3 k hk).trans (am_up_ne hk)⟩
    rw [← w1]
    simp (disch := omega) only [fX0_findPressed_c51_pressedByOther_b2, fX0_findPressed_c51_pressedByOther_b2w, zz_lt, li_0, li_1, li_2, li_3, li_4, li_5, li_6, li_7, li_8, li_9, li_10, li_11, li_12, li_15, li_16, li_20, li_21, li_24, li_25, li_26, li_32, li_33, li_38, li_40, li_41, li_42, li_43, li_45, li_47, li_48, li_57, li_58, li_59, li_60, li_61, li_62, li_63, li_74, li_75, li_84, li_91, li_93, li_98, li_100, li_103, li_105, li_107, li_109, li_110, li_111, li_112, li_115, li_118, li_119, li_120, li_121, li_124, li_140, li_180, li_206, li_240, li_255, li_420, li_520, li_999, li_1000, li_1771, li_8240, li_9999, li_88200, li_1000000, li_2097151, li_31, nI_add, pk_mul, zz_an, nI_clamp, zz_leT, zz_leF, zz_ltT, zz_ltF, zz_eqF, zz_eqT, zz_m1, zz_m2, zz_m3, zz_m4, zz_m5, zz_m6, zz_ck, zz_bl, zz_b3, zz_b2, zz_shl, zz_bt0, zz_bt1, pk_div, Nat.zero_add, Nat.add_zero, if_true, if_false, reduceIte, Nat.mul_zero, zz_or0, zz_inT, zz_inF, h54, mx, h53]
def TS (I : am_I) (g : Nat → Nat → Nat) (x y O f o : Nat) : Prop := ∀ a r b q, 1 ≤ a → a ≤ 20 → r ≤ gRest g a → 1 ≤ b → b ≤ 20 → q ≤ gRest g b → (plc g a r < f ∨ (plc g a r = f ∧ plc g b q < o)) → plc g b q ≤ O → I 67 (plc g a r * 75 + plc g b q) = cdD g x y a r b q ∧ I 68 (plc g b q * 75 + plc g a r) = cdD g y x b q a r
theorem st12 {g : Nat → Nat → Nat} (hg : GW g) (n d : Nat) (L : am_L) (k2 : Int32 → am_I → am_L → Option (am_I × am_L)) {x y O : Nat} (hx : 1 ≤ x ∧ x ≤ 5) (hy : 1 ≤ y ∧ y ≤ 5) {I0 : am_I} (hD : DL I0 g) (p56 : ∀ b q, b ≤ 20 → q ≤ gRest g b → I0 56 (plc g b q) = nI (prs g x b)) (p57 : ∀ b q, b ≤ 20 → q ≤ gRest g b → I0 57 (plc g b q) = nI (prs g y b)) (h11 : I0 51 11 = nI O) (hO : O < lwS g 21) {a r : Nat} (ha : 1 ≤ a ∧ a ≤ 20) (hr : r ≤ gRest g a) : ∀ (j o F : Nat) (I : am_I), o + j = O + 1 → j < F → 1 ≤ o → (∀ k, k ≠ 67 → k ≠ 68 → I k = I0 k) → TS I g x y O (plc g a r) o → ∃ I', fX0_settleAll_t_b12 n d k2 F (nI (plc g a r)) (nI o) I L = k2 (nI (plc g a r + 1)) I' L ∧ (∀ k, k ≠ 67 → k ≠ 68 → I' k = I0 k) ∧ TS I' g x y O (plc g a r) (O + 1)
  | _, _, 0, _, _, f, _, _, _ => by omega
  | 0, o, F + 1, I, e, f, h1, hf, hT => by
    have e1 : o = O + 1 := by omega
    subst e1
    have l21 := lwS_le hg 21 (by omega)
    have i11 : I 51 11 = nI O := by rw [hf 51 (by omega) (by omega)]; exact h11
    refine ⟨I, ?_, hf, hT⟩
    simp (disch := omega) only [fX0_settleAll_t_b12, fX0_settleAll_t_b12w, zz_lt, li_0, li_1, li_2, li_3, li_4, li_5, li_6, li_7, li_8, li_9, li_10, li_11, li_12, li_15, li_16, li_20, li_21, li_24, li_25, li_26, li_32, li_33, li_38, li_40, li_41, li_42, li_43, li_45, li_47, li_48, li_57, li_58, li_59, li_60, li_61, li_62, li_63, li_74, li_75, li_84, li_91, li_93, li_98, li_100, li_103, li_105, li_107, li_109, li_110, li_111, li_112, li_115, li_118, li_119, li_120, li_121, li_124, li_140, li_180, li_206, li_240, li_255, li_420, li_520, li_999, li_1000, li_1771, li_8240, li_9999, li_88200, li_1000000, li_2097151, li_31, nI_add, pk_mul, zz_sub, zz_an, nI_clamp, zz_leT, zz_leF, zz_ltT, zz_ltF, zz_eqF, zz_eqT, zz_m1, zz_m2, zz_m3, zz_m4, zz_m5, zz_m6, zz_ck, zz_bl, zz_b3, zz_b2, zz_shl, zz_bt0, zz_bt1, pk_div, Nat.zero_add, Nat.add_zero, if_true, if_false, reduceIte, Nat.mul_zero, zz_or0, zz_inT, zz_inF, i11]
  | j + 1, o, F + 1, I, e, f, h1, hf, hT => by
    have l21 := lwS_le hg 21 (by omega)
    obtain ⟨b, q, hb, hq, ho⟩ := pl_1 hg (p := o) (by omega) h1
    have i11 : I 51 11 = nI O := by rw [hf 51 (by omega) (by omega)]; exact h11
    have pa := plc_le hg ha.2 hr
    have pb := plc_le hg hb.2 hq
    have la := lwS_m g (a := 0) (b := a) (by omega)
    have lb := lwS_m g (a := 0) (b := b) (by omega)
    have ua : plc g a r = lwS g a + r := rfl
    have ub : plc g b q = lwS g b + q := rfl
    have ua1 := plc_1 g ha.1
    have ub1 := plc_1 g hb.1
    have i56 : I 56 o = nI (prs g x b) := by rw [hf 56 (by omega) (by omega), ho]; exact p56 b q hb.2 hq
    have i55a : I 55 (plc g a r) = nI (lwS g a - 1) := by
      rw [hf 55 (by omega) (by omega)]
      have := ((hD a ha.2).2.2 r hr).2
      rw [if_neg (by omega)] at this
      exact this
    have B1 := best_68 hg n d L (I := I) hx.1 hy.1 ha hr hb hq i55a (fun c => by
        have := (hT (a - 1) (gRest g (a - 1)) b q (by omega) (by omega) (Nat.le_refl _) hb.1 hb.2 hq (Or.inl (by omega)) (by omega)).2
        rw [show plc g (a - 1) (gRest g (a - 1)) = lwS g a - 1 by omega] at this
        exact this) (fun c => by
        have u : plc g a (r - 1) = lwS g a + (r - 1) := rfl
        have := (hT a (r - 1) b q ha.1 ha.2 (by omega) hb.1 hb.2 hq (Or.inl (by omega)) (by omega)).2
        rw [show plc g b q * 75 + plc g a (r - 1) = plc g b q * 75 + plc g a r - 1 by omega] at this
        exact this) (fun c c2 => by
        have u : plc g a (r - 1) = lwS g a + (r - 1) := rfl
        have pl := plc_lt g (a := b - x) (b := b) (by omega)
        have := (hT a (r - 1) (b - x) (gRest g (b - x)) ha.1 ha.2 (by omega) (by omega) (by omega) (Nat.le_refl _) (Or.inl (by omega)) (by omega)).2
        have ep : prs g x b = plc g (b - x) (gRest g (b - x)) := by unfold prs; rw [if_neg c2]
        rw [ep, show plc g (b - x) (gRest g (b - x)) * 75 + plc g a r - 1 = plc g (b - x) (gRest g (b - x)) * 75 + plc g a (r - 1) by omega]
        exact this)
    rw [← ho] at B1
    have f1 : ∀ k, k ≠ 67 → k ≠ 68 → (am_up I 67 (plc g a r * 75 + o) (cdD g x y a r b q)) k = I0 k := fun k a1 a2 => by rw [am_up_ne a1]; exact hf k a1 a2
    have o67 : ∀ X, X ≠ plc g a r * 75 + o → (am_up I 67 (plc g a r * 75 + o) (cdD g x y a r b q)) 67 X = I 67 X := fun X hX => up_n hX
    have n67 : (am_up I 67 (plc g a r * 75 + o) (cdD g x y a r b q)) 67 (plc g a r * 75 + o) = cdD g x y a r b q := up_s rfl
    have o68 : (am_up I 67 (plc g a r * 75 + o) (cdD g x y a r b q)) 68 = I 68 := am_up_ne (by omega)
    obtain ⟨I1, hI1⟩ : ∃ I1, I1 = am_up I 67 (plc g a r * 75 + o) (cdD g x y a r b q) := ⟨_, rfl⟩
    have hI1' := hI1.symm
    rw [← hI1] at f1 o67 n67 o68
    have i57 : I1 57 (plc g a r) = nI (prs g y a) := by rw [f1 57 (by omega) (by omega)]; exact p57 a r ha.2 hr
    have i55b : I1 55 (plc g b q) = nI (lwS g b - 1) := by
      rw [f1 55 (by omega) (by omega)]
      have := ((hD b hb.2).2.2 q hq).2
      rw [if_neg (by omega)] at this
      exact this
    have B2 := best_67 hg n d L (I := I1) hy.1 hx.1 hb hq ha hr i55b (fun c => by
        have := (hT a r (b - 1) (gRest g (b - 1)) ha.1 ha.2 hr (by omega) (by omega) (Nat.le_refl _) (Or.inr (by omega)) (by omega)).1
        rw [show plc g (b - 1) (gRest g (b - 1)) = lwS g b - 1 by omega] at this
        rw [o67 _ (by omega)]
        exact this) (fun c => by
        have u : plc g b (q - 1) = lwS g b + (q - 1) := rfl
        have := (hT a r b (q - 1) ha.1 ha.2 hr hb.1 hb.2 (by omega) (Or.inr (by omega)) (by omega)).1
        rw [show plc g a r * 75 + plc g b (q - 1) = plc g a r * 75 + plc g b q - 1 by omega] at this
        rw [o67 _ (by omega)]
        exact this) (fun c c2 => by
        have u : plc g b (q - 1) = lwS g b + (q - 1) := rfl
        have pl := plc_lt g (a := a - y) (b := a) (by omega)
        have := (hT (a - y) (gRest g (a - y)) b (q - 1) (by omega) (by omega) (Nat.le_refl _) hb.1 hb.2 (by omega) (Or.inl (by omega)) (by omega)).1
        have ep : prs g y a = plc g (a - y) (gRest g (a - y)) := by unfold prs; rw [if_neg c2]
        rw [ep, o67 _ (by omega), show plc g (a - y) (gRest g (a - y)) * 75 + plc g b q - 1 = plc g (a - y) (gRest g (a - y)) * 75 + plc g b (q - 1) by omega]
        exact this)
    rw [← ho] at B2
    obtain ⟨I', w1, w2, w3⟩ := st12 hg n d L k2 hx hy hD p56 p57 h11 hO ha hr j (o + 1) F (am_up I1 68 (o * 75 + plc g a r) (cdD g y x b q a r)) (by omega) (by omega) (by omega) (fun k a1 a2 => by rw [am_up_ne a2]; exact f1 k a1 a2) (fun a' r' b' q' z1 z2 z3 z4 z5 z6 z7 z8 => by
      have pa' := plc_le hg z2 z3
      have pb' := plc_le hg z5 z6
      by_cases c : plc g a' r' = plc g a r ∧ plc g b' q' = o
      · obtain ⟨c1, c2⟩ := c
        obtain ⟨q1, q2⟩ := plc_inj z3 hr c1
        obtain ⟨q3, q4⟩ := plc_inj z6 hq (c2.trans ho)
        subst q1 q2 q3 q4
        rw [c2]
        exact ⟨by rw [am_up_ne (by omega)]; exact n67, up_s rfl⟩
      · have old := hT a' r' b' q' z1 z2 z3 z4 z5 z6 (by omega) z8
        exact ⟨by rw [am_up_ne (by omega), o67 _ (by omega)]; exact old.1, by rw [up_n (by omega), o68]; exact old.2⟩)
    refine ⟨I', ?_, w2, w3⟩
    rw [← w1]
    simp (disch := omega) only [fX0_settleAll_t_b12, fX0_settleAll_t_b12w, zz_lt, li_0, li_1, li_2, li_3, li_4, li_5, li_6, li_7, li_8, li_9, li_10, li_11, li_12, li_15, li_16, li_20, li_21, li_24, li_25, li_26, li_32, li_33, li_38, li_40, li_41, li_42, li_43, li_45, li_47, li_48, li_57, li_58, li_59, li_60, li_61, li_62, li_63, li_74, li_75, li_84, li_91, li_93, li_98, li_100, li_103, li_105, li_107, li_109, li_110, li_111, li_112, li_115, li_118, li_119, li_120, li_121, li_124, li_140, li_180, li_206, li_240, li_255, li_420, li_520, li_999, li_1000, li_1771, li_8240, li_9999, li_88200, li_1000000, li_2097151, li_31, nI_add, pk_mul, zz_sub, zz_an, nI_clamp, zz_leT, zz_leF, zz_ltT, zz_ltF, zz_eqF, zz_eqT, zz_m1, zz_m2, zz_m3, zz_m4, zz_m5, zz_m6, zz_ck, zz_bl, zz_b3, zz_b2, zz_shl, zz_bt0, zz_bt1, pk_div, Nat.zero_add, Nat.add_zero, if_true, if_false, reduceIte, Nat.mul_zero, zz_or0, zz_inT, zz_inF, i11, i56, B1, hI1', i57, B2]
theorem st2 {g : Nat → Nat → Nat} (hg : GW g) (n d : Nat) (hn : 100 < n) (L : am_L) {x y O G : Nat} (hx : 1 ≤ x ∧ x ≤ 5) (hy : 1 ≤ y ∧ y ≤ 5) {I0 : am_I} (hD : DL I0 g) (p56 : ∀ b q, b ≤ 20 → q ≤ gRest g b → I0 56 (plc g b q) = nI (prs g x b)) (p57 : ∀ b q, b ≤ 20 → q ≤ gRest g b → I0 57 (plc g b q) = nI (prs g y b)) (h10 : I0 51 10 = nI G) (h11 : I0 51 11 = nI O) (hO : O < lwS g 21) (hG : G < lwS g 21) : ∀ (j f F : Nat) (I : am_I), f + j = G + 1 → j < F → 1 ≤ f → (∀ k, k ≠ 67 → k ≠ 68 → I k = I0 k) → TS I g x y O f 1 → ∃ I', fX0_settleAll_t_b2 n d F (nI f) I L = some (I', L) ∧ (∀ k, k ≠ 67 → k ≠ 68 → I' k = I0 k) ∧ TS I' g x y O (G + 1) 1
  | _, _, 0, _, _, f, _, _, _ => by omega
  | 0, f, F + 1, I, e, _, h1, hf, hT => by
    have e1 : f = G + 1 := by omega
    subst e1
    have l21 := lwS_le hg 21 (by omega)
    have i10 : I 51 10 = nI G := by rw [hf 51 (by omega) (by omega)]; exact h10
    refine ⟨I, ?_, hf, hT⟩
    simp (disch := omega) only [fX0_settleAll_t_b2, fX0_settleAll_t_b2w, zz_lt, li_0, li_1, li_2, li_3, li_4, li_5, li_6, li_7, li_8, li_9, li_10, li_11, li_12, li_15, li_16, li_20, li_21, li_24, li_25, li_26, li_32, li_33, li_38, li_40, li_41, li_42, li_43, li_45, li_47, li_48, li_57, li_58, li_59, li_60, li_61, li_62, li_63, li_74, li_75, li_84, li_91, li_93, li_98, li_100, li_103, li_105, li_107, li_109, li_110, li_111, li_112, li_115, li_118, li_119, li_120, li_121, li_124, li_140, li_180, li_206, li_240, li_255, li_420, li_520, li_999, li_1000, li_1771, li_8240, li_9999, li_88200, li_1000000, li_2097151, li_31, nI_add, pk_mul, zz_sub, zz_an, nI_clamp, zz_leT, zz_leF, zz_ltT, zz_ltF, zz_eqF, zz_eqT, zz_m1, zz_m2, zz_m3, zz_m4, zz_m5, zz_m6, zz_ck, zz_bl, zz_b3, zz_b2, zz_shl, zz_bt0, zz_bt1, pk_div, Nat.zero_add, Nat.add_zero, if_true, if_false, reduceIte, Nat.mul_zero, zz_or0, zz_inT, zz_inF, i10]
  | j + 1, f, F + 1, I, e, fl, h1, hf, hT => by
    have l21 := lwS_le hg 21 (by omega)
    have i10 : I 51 10 = nI G := by rw [hf 51 (by omega) (by omega)]; exact h10
    obtain ⟨a, r, ha, hr, ef⟩ := pl_1 hg (p := f) (by omega) h1
    rw [ef] at hT
    obtain ⟨I1, w1, w2, w3⟩ := st12 hg n d L (fX0_settleAll_t_b2 n d F) hx hy hD p56 p57 h11 hO ha hr O 1 n I (by omega) (by omega) (by omega) hf hT
    rw [← ef] at w1 w3
    obtain ⟨I', v1, v2, v3⟩ := st2 hg n d hn L hx hy hD p56 p57 h10 h11 hO hG j (f + 1) F I1 (by omega) (by omega) (by omega) w2 (fun a' r' b' q' z1 z2 z3 z4 z5 z6 z7 z8 => by
      have lb := lwS_m g (a := 0) (b := b') (by omega)
      have ub : plc g b' q' = lwS g b' + q' := rfl
      exact w3 a' r' b' q' z1 z2 z3 z4 z5 z6 (by omega) z8)
    refine ⟨I', ?_, v2, v3⟩
    rw [← v1, ← w1]
    simp (disch := omega) only [fX0_settleAll_t_b2, fX0_settleAll_t_b2w, zz_lt, li_0, li_1, li_2, li_3, li_4, li_5, li_6, li_7, li_8, li_9, li_10, li_11, li_12, li_15, li_16, li_20, li_21, li_24, li_25, li_26, li_32, li_33, li_38, li_40, li_41, li_42, li_43, li_45, li_47, li_48, li_57, li_58, li_59, li_60, li_61, li_62, li_63, li_74, li_75, li_84, li_91, li_93, li_98, li_100, li_103, li_105, li_107, li_109, li_110, li_111, li_112, li_115, li_118, li_119, li_120, li_121, li_124, li_140, li_180, li_206, li_240, li_255, li_420, li_520, li_999, li_1000, li_1771, li_8240, li_9999, li_88200, li_1000000, li_2097151, li_31, nI_add, pk_mul, zz_sub, zz_an, nI_clamp, zz_leT, zz_leF, zz_ltT, zz_ltF, zz_eqF, zz_eqT, zz_m1, zz_m2, zz_m3, zz_m4, zz_m5, zz_m6, zz_ck, zz_bl, zz_b3, zz_b2, zz_shl, zz_bt0, zz_bt1, pk_div, Nat.zero_add, Nat.add_zero, if_true, if_false, reduceIte, Nat.mul_zero, zz_or0, zz_inT, zz_inF, i10]
def TF (I : am_I) (g : Nat → Nat → Nat) (x y G O : Nat) : Prop := ∀ a r b q, 1 ≤ a → a ≤ 20 → r ≤ gRest g a → 1 ≤ b → b ≤ 20 → q ≤ gRest g b → plc g a r ≤ G → plc g b q ≤ O → I 67 (plc g a r * 75 + plc g b q) = cdD g x y a r b q
/-- the class's duels are ready for speeds x and y -/
def RY (I : am_I) (g : Nat → Nat → Nat) (x y G O : Nat) : Prop := I 51 8 = nI x ∧ I 51 9 = nI y ∧ I 51 10 = nI G ∧ I 51 11 = nI O ∧ G ≤ 74 ∧ O ≤ 74 ∧ TF I g x y G O
def rDu (I : am_I) (g : Nat → Nat → Nat) : Prop := DL I g ∧ SO I ∧ (I 51 8 = nI 0 ∨ ∃ x y G O, x ≤ 5 ∧ y ≤ 5 ∧ RY I g x y G O)
def sDd (k j : Nat) : Bool := (k == 51 && (j == 8 || j == 9 || j == 10 || j == 11)) || k == 56 || k == 57 || k == 67 || k == 68
theorem sDd_ne {I I' : am_I} (h : ∀ k, k ≠ 51 → k ≠ 56 → k ≠ 57 → k ≠ 67 → k ≠ 68 → I' k = I k) (h51 : ∀ j, j ≠ 8 → j ≠ 9 → j ≠ 10 → j ≠ 11 → I' 51 j = I 51 j) : am_ag sDd I I' := fun k j e => by
  by_cases c : k = 51
  · subst c
    have e' : (¬ j = 8 ∧ ¬ j = 9) ∧ ¬ j = 10 ∧ ¬ j = 11 := by
      unfold sDd at e
      simp at e
      omega
    exact h51 j e'.1.1 e'.1.2 e'.2.1 e'.2.2
  · unfold sDd at e
    simp [c] at e
    rw [h k c (by omega) (by omega) (by omega) (by omega)]
theorem pc_prep {g : Nat → Nat → Nat} (hg : GW g) (n d : Nat) (hn : 100 < n) (L : am_L) {I : am_I} (hR : rDu I g) {x y G O : Nat} (hx : 1 ≤ x ∧ x ≤ 5) (hy : 1 ≤ y ∧ y ≤ 5) (hG : G < lwS g 21) (hO : O < lwS g 21) : ∃ I' G' O', fX0_prepare_t n d (nI x) (nI y) (nI G) (nI O) I L = some (I', L) ∧ DL I' g ∧ SO I' ∧ RY I' g x y G' O' ∧ G ≤ G' ∧ O ≤ O' ∧ am_ag sDd I I' := by
  obtain ⟨hD, hS, hr⟩ := hR
  have l21 := lwS_le hg 21 (by omega)
  have fresh : ∃ I' G' O', fX0_prepare_t_b78 n d (nI x) (nI y) (nI G) (nI O) I L = some (I', L) ∧ DL I' g ∧ SO I' ∧ RY I' g x y G' O' ∧ G ≤ G' ∧ O ≤ O' ∧ am_ag sDd I I' := by
    obtain ⟨I6, hI6⟩ : ∃ I6, I6 = am_up (am_up (am_up (am_up I 51 8 (nI x)) 51 9 (nI y)) 51 10 (nI G)) 51 11 (nI O) := ⟨_, rfl⟩
    have k6 : ∀ k, k ≠ 51 → I6 k = I k := fun k h => by rw [hI6, am_up_ne h, am_up_ne h, am_up_ne h, am_up_ne h]
    have D6 := DL_k hD (k6 52 (by omega)) (k6 53 (by omega)) (k6 54 (by omega)) (k6 55 (by omega))
    have S6 := SO_k hS (k6 54 (by omega))
    obtain ⟨I7, u1, u2, u3⟩ := fp_56 hg n d L hx.2 75 0 n I6 (by omega) (by omega) S6 D6 (fun b q _ _ h => by omega)
    have D7 := DL_k D6 (u3 52 (by omega)) (u3 53 (by omega)) (u3 54 (by omega)) (u3 55 (by omega))
    have S7 := SO_k S6 (u3 54 (by omega))
    obtain ⟨I8, v1, v2, v3⟩ := fp_57 hg n d L hy.2 75 0 n I7 (by omega) (by omega) S7 D7 (fun b q _ _ h => by omega)
    have D8 := DL_k D7 (v3 52 (by omega)) (v3 53 (by omega)) (v3 54 (by omega)) (v3 55 (by omega))
    have S8 := SO_k S7 (v3 54 (by omega))
    have e51 : I8 51 = I6 51 := (v3 51 (by omega)).trans (u3 51 (by omega))
    have c8 : I8 51 8 = nI x := by rw [e51, hI6, up_n (by omega), up_n (by omega), up_n (by omega), up_s rfl]
    have c9 : I8 51 9 = nI y := by rw [e51, hI6, up_n (by omega), up_n (by omega), up_s rfl]
    have c10 : I8 51 10 = nI G := by rw [e51, hI6, up_n (by omega), up_s rfl]
    have c11 : I8 51 11 = nI O := by rw [e51, hI6, up_s rfl]
    obtain ⟨I9, w1, w2, w3⟩ := st2 hg n d hn L hx hy D8 (fun b q hb hq => by rw [v3 56 (by omega)]; exact u2 b q hb hq) v2 c10 c11 hO hG G 1 n I8 (by omega) (by omega) (by omega) (fun _ _ _ => rfl) (fun a r b q z1 z2 z3 z4 z5 z6 z7 z8 => by
      have la := lwS_m g (a := 0) (b := a) (by omega)
      have lb := lwS_m g (a := 0) (b := b) (by omega)
      have ua : plc g a r = lwS g a + r := rfl
      have ub : plc g b q = lwS g b + q := rfl
      omega)
    have e9 : ∀ k, k ≠ 51 → k ≠ 56 → k ≠ 57 → k ≠ 67 → k ≠ 68 → I9 k = I k := fun k a1 a2 a3 a4 a5 => by rw [w2 k a4 a5, v3 k a3, u3 k a2, k6 k a1]
    have e951 : I9 51 = I6 51 := by rw [w2 51 (by omega) (by omega), e51]
    refine ⟨I9, G, O, ?_, DL_k hD (e9 52 (by omega) (by omega) (by omega) (by omega) (by omega)) (e9 53 (by omega) (by omega) (by omega) (by omega) (by omega)) (e9 54 (by omega) (by omega) (by omega) (by omega) (by omega)) (e9 55 (by omega) (by omega) (by omega) (by omega) (by omega)), SO_k hS (e9 54 (by omega) (by omega) (by omega) (by omega) (by omega)), ⟨by rw [e951, ← e51]; exact c8, by rw [e951, ← e51]; exact c9, by rw [e951, ← e51]; exact c10, by rw [e951, ← e51]; exact c11, by omega, by omega, fun a r b q z1 z2 z3 z4 z5 z6 z7 z8 => (w3 a r b q z1 z2 z3 z4 z5 z6 (Or.inl (by omega)) z8).1⟩, Nat.le_refl _, Nat.le_refl _, sDd_ne e9 (fun j a1 a2 a3 a4 => by rw [e951, hI6, up_n a4, up_n a3, up_n a2, up_n a1])⟩
    have u0 : fX0_findPressed_c51_pressedByFirst n d (nI x) I6 L = some (I7, L) := by
      rw [← u1]; simp (disch := omega) only [fX0_findPressed_c51_pressedByFirst, zz_lt, li_0, li_1, li_2, li_3, li_4, li_5, li_6, li_7, li_8, li_9, li_10, li_11, li_12, li_15, li_16, li_20, li_21, li_24, li_25, li_26, li_32, li_33, li_38, li_40, li_41, li_42, li_43, li_45, li_47, li_48, li_57, li_58, li_59, li_60, li_61, li_62, li_63, li_74, li_75, li_84, li_91, li_93, li_98, li_100, li_103, li_105, li_107, li_109, li_110, li_111, li_112, li_115, li_118, li_119, li_120, li_121, li_124, li_140, li_180, li_206, li_240, li_255, li_420, li_520, li_999, li_1000, li_1771, li_8240, li_9999, li_88200, li_1000000, li_2097151, li_31, nI_add, pk_mul, zz_sub, zz_an, nI_clamp, zz_leT, zz_leF, zz_ltT, zz_ltF, zz_eqF, zz_eqT, zz_m1, zz_m2, zz_m3, zz_m4, zz_m5, zz_m6, zz_ck, zz_bl, zz_b3, zz_b2, zz_shl, zz_bt0, zz_bt1, pk_div, Nat.zero_add, Nat.add_zero, if_true, if_false, reduceIte, Nat.mul_zero, zz_or0, zz_inT, zz_inF]
    have v0 : fX0_findPressed_c51_pressedByOther n d (nI y) I7 L = some (I8, L) := by
      rw [← v1]; simp (disch := omega) only [fX0_findPressed_c51_pressedByOther, zz_lt, li_0, li_1, li_2, li_3, li_4, li_5, li_6, li_7, li_8, li_9, li_10, li_11, li_12, li_15, li_16, li_20, li_21, li_24, li_25, li_26, li_32, li_33, li_38, li_40, li_41, li_42, li_43, li_45, li_47, li_48, li_57, li_58, li_59, li_60, li_61, li_62, li_63, li_74, li_75, li_84, li_91, li_93, li_98, li_100, li_103, li_105, li_107, li_109, li_110, li_111, li_112, li_115, li_118, li_119, li_120, li_121, li_124, li_140, li_180, li_206, li_240, li_255, li_420, li_520, li_999, li_1000, li_1771, li_8240, li_9999, li_88200, li_1000000, li_2097151, li_31, nI_add, pk_mul, zz_sub, zz_an, nI_clamp, zz_leT, zz_leF, zz_ltT, zz_ltF, zz_eqF, zz_eqT, zz_m1, zz_m2, zz_m3, zz_m4, zz_m5, zz_m6, zz_ck, zz_bl, zz_b3, zz_b2, zz_shl, zz_bt0, zz_bt1, pk_div, Nat.zero_add, Nat.add_zero, if_true, if_false, reduceIte, Nat.mul_zero, zz_or0, zz_inT, zz_inF]
    have w0 : fX0_settleAll_t n d I8 L = some (I9, L) := by
      rw [← w1]; simp (disch := omega) only [fX0_settleAll_t, zz_lt, li_0, li_1, li_2, li_3, li_4, li_5, li_6, li_7, li_8, li_9, li_10, li_11, li_12, li_15, li_16, li_20, li_21, li_24, li_25, li_26, li_32, li_33, li_38, li_40, li_41, li_42, li_43, li_45, li_47, li_48, li_57, li_58, li_59, li_60, li_61, li_62, li_63, li_74, li_75, li_84, li_91, li_93, li_98, li_100, li_103, li_105, li_107, li_109, li_110, li_111, li_112, li_115, li_118, li_119, li_120, li_121, li_124, li_140, li_180, li_206, li_240, li_255, li_420, li_520, li_999, li_1000, li_1771, li_8240, li_9999, li_88200, li_1000000, li_2097151, li_31, nI_add, pk_mul, zz_sub, zz_an, nI_clamp, zz_leT, zz_leF, zz_ltT, zz_ltF, zz_eqF, zz_eqT, zz_m1, zz_m2, zz_m3, zz_m4, zz_m5, zz_m6, zz_ck, zz_bl, zz_b3, zz_b2, zz_shl, zz_bt0, zz_bt1, pk_div, Nat.zero_add, Nat.add_zero, if_true, if_false, reduceIte, Nat.mul_zero, zz_or0, zz_inT, zz_inF]
    have m1 : ∀ I : am_I, fJ9_min_7cf53 n d (nI G) (nI 74) I L = some (nI G, I, L) := fun I => by rw [J_min n d G 74 I L (by omega) (by omega), Nat.min_eq_left (by omega)]
    have m2 : ∀ I : am_I, fJ9_min_7cf53 n d (nI O) (nI 74) I L = some (nI O, I, L) := fun I => by rw [J_min n d O 74 I L (by omega) (by omega), Nat.min_eq_left (by omega)]
    have hI6' := hI6.symm
    simp (disch := omega) only [fX0_prepare_t_b78, zz_lt, li_0, li_1, li_2, li_3, li_4, li_5, li_6, li_7, li_8, li_9, li_10, li_11, li_12, li_15, li_16, li_20, li_21, li_24, li_25, li_26, li_32, li_33, li_38, li_40, li_41, li_42, li_43, li_45, li_47, li_48, li_57, li_58, li_59, li_60, li_61, li_62, li_63, li_74, li_75, li_84, li_91, li_93, li_98, li_100, li_103, li_105, li_107, li_109, li_110, li_111, li_112, li_115, li_118, li_119, li_120, li_121, li_124, li_140, li_180, li_206, li_240, li_255, li_420, li_520, li_999, li_1000, li_1771, li_8240, li_9999, li_88200, li_1000000, li_2097151, li_31, nI_add, pk_mul, zz_sub, zz_an, nI_clamp, zz_leT, zz_leF, zz_ltT, zz_ltF, zz_eqF, zz_eqT, zz_m1, zz_m2, zz_m3, zz_m4, zz_m5, zz_m6, zz_ck, zz_bl, zz_b3, zz_b2, zz_shl, zz_bt0, zz_bt1, pk_div, Nat.zero_add, Nat.add_zero, if_true, if_false, reduceIte, Nat.mul_zero, zz_or0, zz_inT, zz_inF, m1, m2, hI6', u0, v0, w0]
  have go : (¬ I 51 8 = nI x ∨ ¬ I 51 9 = nI y) → fX0_prepare_t n d (nI x) (nI y) (nI G) (nI O) I L = fX0_prepare_t_b78 n d (nI x) (nI y) (nI G) (nI O) I L := fun h => by
    by_cases c1 : nI x = I 51 8
    · have c2 : ¬ nI y = I 51 9 := fun z => by
        rcases h with h | h
        · exact h c1.symm
        · exact h z.symm
      unfold fX0_prepare_t fX0_prepare_t_b20 fX0_prepare_t_b21
      rw [if_pos c1, if_neg c2, zz_lt, if_pos rfl]
      rfl
    · unfold fX0_prepare_t fX0_prepare_t_b20 fX0_prepare_t_b21
      rw [if_neg c1, zz_lt, if_pos rfl]
      rfl
  rcases hr with hr | ⟨x0, y0, G0, O0, q1, q2, r8, r9, r10, r11, r12, r13, r14⟩
  · rw [go (Or.inl (by rw [hr, zz_eqF (by omega)]; exact fun z => z))]
    exact fresh
  · by_cases c : x0 = x ∧ y0 = y
    · obtain ⟨cx, cy⟩ := c
      subst cx cy
      by_cases c3 : G ≤ G0 ∧ O ≤ O0
      · obtain ⟨c3, c4⟩ := c3
        refine ⟨I, G0, O0, ?_, hD, hS, ⟨r8, r9, r10, r11, r12, r13, r14⟩, c3, c4, ag_rf⟩
        simp (disch := omega) only [fX0_prepare_t, fX0_prepare_t_b21, zz_lt, li_0, li_1, li_2, li_3, li_4, li_5, li_6, li_7, li_8, li_9, li_10, li_11, li_12, li_15, li_16, li_20, li_21, li_24, li_25, li_26, li_32, li_33, li_38, li_40, li_41, li_42, li_43, li_45, li_47, li_48, li_57, li_58, li_59, li_60, li_61, li_62, li_63, li_74, li_75, li_84, li_91, li_93, li_98, li_100, li_103, li_105, li_107, li_109, li_110, li_111, li_112, li_115, li_118, li_119, li_120, li_121, li_124, li_140, li_180, li_206, li_240, li_255, li_420, li_520, li_999, li_1000, li_1771, li_8240, li_9999, li_88200, li_1000000, li_2097151, li_31, nI_add, pk_mul, zz_sub, zz_an, nI_clamp, zz_leT, zz_leF, zz_ltT, zz_ltF, zz_eqF, zz_eqT, zz_m1, zz_m2, zz_m3, zz_m4, zz_m5, zz_m6, zz_ck, zz_bl, zz_b3, zz_b2, zz_shl, zz_bt0, zz_bt1, pk_div, Nat.zero_add, Nat.add_zero, if_true, if_false, reduceIte, Nat.mul_zero, zz_or0, zz_inT, zz_inF, r8, r9, r10, r11]
      · obtain ⟨I', G', O', w, ww⟩ := fresh
        refine ⟨I', G', O', ?_, ww⟩
        rw [← w]
        by_cases c5 : G0 < G
        · simp (disch := omega) only [fX0_prepare_t, fX0_prepare_t_b21, fX0_prepare_t_b46, zz_lt, li_0, li_1, li_2, li_3, li_4, li_5, li_6, li_7, li_8, li_9, li_10, li_11, li_12, li_15, li_16, li_20, li_21, li_24, li_25, li_26, li_32, li_33, li_38, li_40, li_41, li_42, li_43, li_45, li_47, li_48, li_57, li_58, li_59, li_60, li_61, li_62, li_63, li_74, li_75, li_84, li_91, li_93, li_98, li_100, li_103, li_105, li_107, li_109, li_110, li_111, li_112, li_115, li_118, li_119, li_120, li_121, li_124, li_140, li_180, li_206, li_240, li_255, li_420, li_520, li_999, li_1000, li_1771, li_8240, li_9999, li_88200, li_1000000, li_2097151, li_31, nI_add, pk_mul, zz_sub, zz_an, nI_clamp, zz_leT, zz_leF, zz_ltT, zz_ltF, zz_eqF, zz_eqT, zz_m1, zz_m2, zz_m3, zz_m4, zz_m5, zz_m6, zz_ck, zz_bl, zz_b3, zz_b2, zz_shl, zz_bt0, zz_bt1, pk_div, Nat.zero_add, Nat.add_zero, if_true, if_false, reduceIte, Nat.mul_zero, zz_or0, zz_inT, zz_inF, r8, r9, r10, r11]
        · simp (disch := omega) only [fX0_prepare_t, fX0_prepare_t_b21, fX0_prepare_t_b46, zz_lt, li_0, li_1, li_2, li_3, li_4, li_5, li_6, li_7, li_8, li_9, li_10, li_11, li_12, li_15, li_16, li_20, li_21, li_24, li_25, li_26, li_32, li_33, li_38, li_40, li_41, li_42, li_43, li_45, li_47, li_48, li_57, li_58, li_59, li_60, li_61, li_62, li_63, li_74, li_75, li_84, li_91, li_93, li_98, li_100, li_103, li_105, li_107, li_109, li_110, li_111, li_112, li_115, li_118, li_119, li_120, li_121, li_124, li_140, li_180, li_206, li_240, li_255, li_420, li_520, li_999, li_1000, li_1771, li_8240, li_9999, li_88200, li_1000000, li_2097151, li_31, nI_add, pk_mul, zz_sub, zz_an, nI_clamp, zz_leT, zz_leF, zz_ltT, zz_ltF, zz_eqF, zz_eqT, zz_m1, zz_m2, zz_m3, zz_m4, zz_m5, zz_m6, zz_ck, zz_bl, zz_b3, zz_b2, zz_shl, zz_bt0, zz_bt1, pk_div, Nat.zero_add, Nat.add_zero, if_true, if_false, reduceIte, Nat.mul_zero, zz_or0, zz_inT, zz_inF, r8, r9, r10, r11]
    · rw [go (by
        rw [r8, r9]
        by_cases cx : x0 = x
        · exact Or.inr (fun z => c ⟨cx, (nI_eq (by omega) (by omega)).mp z⟩)
        · exact Or.inl (fun z => cx ((nI_eq (by omega) (by omega)).mp z)))]
      exact fresh
