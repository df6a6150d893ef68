/-! PURE: is the draft whole. -/
def anyS (g : Nat → Nat → Nat) (s : Nat) : Nat → Bool
  | 0 => false
  | i + 1 => anyS g s i || decide (g 1 i = s)
def whB (g : Nat → Nat → Nat) : Bool := decide (2 ≤ g 0 0) && ((anyS g 0 (g 0 0) && anyS g 1 (g 0 0)) && apt g (g 0 1))
theorem any_bits (g : Nat → Nat → Nat) (s : Nat) : ∀ n, n ≤ 30 → (am_bits (fun m => decide (g 1 m = s)) n = nI 0) = (anyS g s n = false)
  | 0, _ => by simp [am_bits, anyS]
  | n + 1, h => by
    have ih := any_bits g s n (by omega)
    unfold am_bits anyS
    by_cases c : g 1 n = s
    · rw [decide_eq_true c, if_pos rfl, Bool.or_true]
      apply propext
      constructor
      · intro z
        have := congrArg (fun y => bt y n) z
        simp only [b_or, bt_pow n (by omega) n (by omega)] at this
        rw [show bt (nI 0) n = false from b_0 n] at this
        simp at this
      · intro z; cases z
    · rw [decide_eq_false c, if_neg (by decide), zz_or0, Bool.or_false]
      exact ih
theorem any_ex {g : Nat → Nat → Nat} {s : Nat} : ∀ n, anyS g s n = true → ∃ m, m < n ∧ g 1 m = s
  | 0, h => by cases h
  | n + 1, h => by
    unfold anyS at h
    by_cases c : g 1 n = s
    · exact ⟨n, by omega, c⟩
    · rw [decide_eq_false c, Bool.or_false] at h
      obtain ⟨m, h1, h2⟩ := any_ex n h
      exact ⟨m, by omega, h2⟩
theorem rl_0 {g : Nat → Nat → Nat} (s : Nat) : ∀ i, (∀ o, o < i → 1 ≤ g 8 o) → (rl g s i = 0 ↔ ∀ k, k < i → g 7 k ≠ s)
  | 0, _ => ⟨fun _ k hk => by omega, fun _ => rfl⟩
  | i + 1, h => by
    have ih := rl_0 s i (fun o ho => h o (by omega))
    have h8 := h i (by omega)
    unfold rl
    by_cases c : g 7 i = s
    · rw [if_pos c]
      exact ⟨fun z => by omega, fun z => absurd c (z i (by omega))⟩
    · rw [if_neg c, ih]
      refine ⟨fun z k hk => ?_, fun z k hk => z k (by omega)⟩
      by_cases e : k = i
      · rw [e]; exact c
      · exact z k (by omega)
def nq (g : Nat → Nat → Nat) (o : Nat) : Nat → Nat → Bool
  | 0, _ => true
  | j + 1, k => decide (g 7 k ≠ g 7 o) && nq g o j (k + 1)
theorem nq_all (g : Nat → Nat → Nat) (o : Nat) : ∀ j k, nq g o j k = true ↔ ∀ i, k ≤ i → i < k + j → g 7 i ≠ g 7 o
  | 0, k => ⟨fun _ i _ _ => by omega, fun _ => rfl⟩
  | j + 1, k => by
    have ih := nq_all g o j (k + 1)
    unfold nq
    rw [Bool.and_eq_true, decide_eq_true_eq, ih]
    refine ⟨fun z i h1 h2 => ?_, fun z => ⟨z k (by omega) (by omega), fun i h1 h2 => z i (by omega) (by omega)⟩⟩
    by_cases e : i = k
    · rw [e]; exact z.1
    · exact z.2 i (by omega) (by omega)
theorem nq_rl {g : Nat → Nat → Nat} {o : Nat} (h : ∀ i, i < o → 1 ≤ g 8 i) : nq g o o 0 = decide (rl g (g 7 o) o = 0) := by
  cases c : nq g o o 0
  · rw [decide_eq_false]
    intro z
    have := (rl_0 (g 7 o) o h).mp z
    have := (nq_all g o o 0).mpr (fun i _ hi => this i (by omega))
    rw [c] at this; cases this
  · rw [decide_eq_true]
    exact (rl_0 (g 7 o) o h).mpr (fun k hk => (nq_all g o o 0).mp c k (by omega) (by omega))
theorem pc_wh {g : Nat → Nat → Nat} {told : Nat} (hg : GD g) {I : am_I} (h : DC I g told) (n d : Nat) (L : am_L) : fX9_isWhole_draft n d I L = some (nI (whB g).toNat, I, L) := by
  obtain ⟨d0, d1, d2, d3, d4, d5, e1, e2, e3, e4, e5, e6, f1, f2, f3, s0, s1⟩ := h
  have q1 := hg.1
  have a0 := any_bits g 0 (g 0 0) (by omega)
  have a1 := any_bits g 1 (g 0 0) (by omega)
  rw [← s0] at a0
  rw [← s1] at a1
  unfold whB
  by_cases c1 : 2 ≤ g 0 0
  · cases c2 : anyS g 0 (g 0 0)
    · rw [c2] at a0
      simp (disch := omega) only [fX9_isWhole_draft, zz_lt, li_0, li_1, li_2, li_3, li_4, li_5, li_6, li_7, li_8, li_9, li_10, li_11, li_12, li_15, li_16, li_20, li_21, li_24, li_25, li_26, li_32, li_33, li_38, li_40, li_41, li_42, li_43, li_45, li_47, li_48, li_57, li_58, li_59, li_60, li_61, li_62, li_63, li_74, li_75, li_84, li_91, li_93, li_98, li_100, li_103, li_105, li_107, li_109, li_110, li_111, li_112, li_115, li_118, li_119, li_120, li_121, li_124, li_140, li_180, li_206, li_240, li_255, li_420, li_520, li_999, li_1000, li_1771, li_8240, li_9999, li_88200, li_1000000, li_2097151, li_31, nI_add, pk_mul, zz_sub, zz_an, nI_clamp, zz_leT, zz_leF, zz_ltT, zz_ltF, zz_eqF, zz_eqT, zz_m1, zz_m2, zz_m3, zz_m4, zz_m5, zz_m6, zz_ck, zz_bl, zz_b3, zz_b2, zz_shl, zz_bt0, zz_bt1, pk_div, Nat.zero_add, Nat.add_zero, if_true, if_false, reduceIte, Nat.mul_zero, zz_or0, zz_inT, zz_inF, d0, a0, Bool.false_and, Bool.and_false, Bool.toNat_false]
    · rw [c2] at a0
      cases c3 : anyS g 1 (g 0 0)
      · rw [c3] at a1
        simp (disch := omega) only [fX9_isWhole_draft, zz_lt, li_0, li_1, li_2, li_3, li_4, li_5, li_6, li_7, li_8, li_9, li_10, li_11, li_12, li_15, li_16, li_20, li_21, li_24, li_25, li_26, li_32, li_33, li_38, li_40, li_41, li_42, li_43, li_45, li_47, li_48, li_57, li_58, li_59, li_60, li_61, li_62, li_63, li_74, li_75, li_84, li_91, li_93, li_98, li_100, li_103, li_105, li_107, li_109, li_110, li_111, li_112, li_115, li_118, li_119, li_120, li_121, li_124, li_140, li_180, li_206, li_240, li_255, li_420, li_520, li_999, li_1000, li_1771, li_8240, li_9999, li_88200, li_1000000, li_2097151, li_31, nI_add, pk_mul, zz_sub, zz_an, nI_clamp, zz_leT, zz_leF, zz_ltT, zz_ltF, zz_eqF, zz_eqT, zz_m1, zz_m2, zz_m3, zz_m4, zz_m5, zz_m6, zz_ck, zz_bl, zz_b3, zz_b2, zz_shl, zz_bt0, zz_bt1, pk_div, Nat.zero_add, Nat.add_zero, if_true, if_false, reduceIte, Nat.mul_zero, zz_or0, zz_inT, zz_inF, d0, a0, a1, Bool.true_eq_false, Bool.false_and, Bool.and_false, Bool.toNat_false]
      · rw [c3] at a1
        cases c4 : apt g (g 0 1) <;> (rw [c4] at d4; simp (disch := omega) only [fX9_isWhole_draft, zz_lt, li_0, li_1, li_2, li_3, li_4, li_5, li_6, li_7, li_8, li_9, li_10, li_11, li_12, li_15, li_16, li_20, li_21, li_24, li_25, li_26, li_32, li_33, li_38, li_40, li_41, li_42, li_43, li_45, li_47, li_48, li_57, li_58, li_59, li_60, li_61, li_62, li_63, li_74, li_75, li_84, li_91, li_93, li_98, li_100, li_103, li_105, li_107, li_109, li_110, li_111, li_112, li_115, li_118, li_119, li_120, li_121, li_124, li_140, li_180, li_206, li_240, li_255, li_420, li_520, li_999, li_1000, li_1771, li_8240, li_9999, li_88200, li_1000000, li_2097151, li_31, nI_add, pk_mul, zz_sub, zz_an, nI_clamp, zz_leT, zz_leF, zz_ltT, zz_ltF, zz_eqF, zz_eqT, zz_m1, zz_m2, zz_m3, zz_m4, zz_m5, zz_m6, zz_ck, zz_bl, zz_b3, zz_b2, zz_shl, zz_bt0, zz_bt1, pk_div, Nat.zero_add, Nat.add_zero, if_true, if_false, reduceIte, Nat.mul_zero, zz_or0, zz_inT, zz_inF, d0, a0, a1, d4, c1, Bool.true_eq_false, decide_true, Bool.true_and, Bool.and_true, Bool.false_and, Bool.and_false, Bool.toNat_true, Bool.toNat_false])
  · simp (disch := omega) only [fX9_isWhole_draft, zz_lt, li_0, li_1, li_2, li_3, li_4, li_5, li_6, li_7, li_8, li_9, li_10, li_11, li_12, li_15, li_16, li_20, li_21, li_24, li_25, li_26, li_32, li_33, li_38, li_40, li_41, li_42, li_43, li_45, li_47, li_48, li_57, li_58, li_59, li_60, li_61, li_62, li_63, li_74, li_75, li_84, li_91, li_93, li_98, li_100, li_103, li_105, li_107, li_109, li_110, li_111, li_112, li_115, li_118, li_119, li_120, li_121, li_124, li_140, li_180, li_206, li_240, li_255, li_420, li_520, li_999, li_1000, li_1771, li_8240, li_9999, li_88200, li_1000000, li_2097151, li_31, nI_add, pk_mul, zz_sub, zz_an, nI_clamp, zz_leT, zz_leF, zz_ltT, zz_ltF, zz_eqF, zz_eqT, zz_m1, zz_m2, zz_m3, zz_m4, zz_m5, zz_m6, zz_ck, zz_bl, zz_b3, zz_b2, zz_shl, zz_bt0, zz_bt1, pk_div, Nat.zero_add, Nat.add_zero, if_true, if_false, reduceIte, Nat.mul_zero, zz_or0, zz_inT, zz_inF, d0, c1, decide_false, Bool.false_and, Bool.toNat_false]
theorem bl2 : ∀ (b : Bool), b.toNat ≤ 1 := by decide
theorem pm_wh64 {g : Nat → Nat → Nat} (hg : GD g) {I : am_I} (h : DM I g) (n d : Nat) (L : am_L) (k53 : Int32 → Int32 → am_I → am_L → Option (Int32 × am_I × am_L)) {o : Nat} (ho : o < g 0 1) : ∀ (j k F : Nat) (b : Bool), k + j = o → j < F → fX12_isWhole_b64 n d k53 F (nI b.toNat) (nI o) (nI k) I L = k53 (nI (b && nq g o j k).toNat) (nI (o + 1)) I L
  | _, _, 0, _, _, f => by omega
  | 0, k, F + 1, b, e, f => by
    have q2 := hg.2.1
    have e1 : k = o := by omega
    subst e1
    have : (b && nq g k 0 k) = b := by show (b && true) = b; rw [Bool.and_true]
    rw [this]
    simp (disch := omega) only [fX12_isWhole_b64, fX12_isWhole_b64w, zz_lt, li_0, li_1, li_2, li_3, li_4, li_5, li_6, li_7, li_8, li_9, li_10, li_11, li_12, li_15, li_16, li_20, li_21, li_24, li_25, li_26, li_32, li_33, li_38, li_40, li_41, li_42, li_43, li_45, li_47, li_48, li_57, li_58, li_59, li_60, li_61, li_62, li_63, li_74, li_75, li_84, li_91, li_93, li_98, li_100, li_103, li_105, li_107, li_109, li_110, li_111, li_112, li_115, li_118, li_119, li_120, li_121, li_124, li_140, li_180, li_206, li_240, li_255, li_420, li_520, li_999, li_1000, li_1771, li_8240, li_9999, li_88200, li_1000000, li_2097151, li_31, nI_add, pk_mul, zz_sub, zz_an, nI_clamp, zz_leT, zz_leF, zz_ltT, zz_ltF, zz_eqF, zz_eqT, zz_m1, zz_m2, zz_m3, zz_m4, zz_m5, zz_m6, zz_ck, zz_bl, zz_b3, zz_b2, zz_shl, zz_bt0, zz_bt1, pk_div, Nat.zero_add, Nat.add_zero, if_true, if_false, reduceIte, Nat.mul_zero, zz_or0, zz_inT, zz_inF]
  | j + 1, k, F + 1, b, e, f => by
    have ih := fun b => pm_wh64 hg h n d L k53 ho j (k + 1) F b (by omega) (by omega)
    have q2 := hg.2.1
    have h1 := h.2.2.2.2.2 k (by omega) 0 (by omega)
    have h2 := h.2.2.2.2.2 o ho 0 (by omega)
    rw [Nat.add_zero] at h1 h2
    have g1 := hg.2.2.2.2.2 k (by omega)
    have g2 := hg.2.2.2.2.2 o ho
    simp only [Nat.zero_add] at h1 h2
    cases b
    · have i0 := ih false
      rw [Bool.false_and] at i0 ⊢
      rw [← i0]
      simp (disch := omega) only [fX12_isWhole_b64, fX12_isWhole_b64w, fX12_isWhole_b98, fX12_isWhole_b99, zz_lt, li_0, li_1, li_2, li_3, li_4, li_5, li_6, li_7, li_8, li_9, li_10, li_11, li_12, li_15, li_16, li_20, li_21, li_24, li_25, li_26, li_32, li_33, li_38, li_40, li_41, li_42, li_43, li_45, li_47, li_48, li_57, li_58, li_59, li_60, li_61, li_62, li_63, li_74, li_75, li_84, li_91, li_93, li_98, li_100, li_103, li_105, li_107, li_109, li_110, li_111, li_112, li_115, li_118, li_119, li_120, li_121, li_124, li_140, li_180, li_206, li_240, li_255, li_420, li_520, li_999, li_1000, li_1771, li_8240, li_9999, li_88200, li_1000000, li_2097151, li_31, nI_add, pk_mul, zz_sub, zz_an, nI_clamp, zz_leT, zz_leF, zz_ltT, zz_ltF, zz_eqF, zz_eqT, zz_m1, zz_m2, zz_m3, zz_m4, zz_m5, zz_m6, zz_ck, zz_bl, zz_b3, zz_b2, zz_shl, zz_bt0, zz_bt1, pk_div, Nat.zero_add, Nat.add_zero, if_true, if_false, reduceIte, Nat.mul_zero, zz_or0, zz_inT, zz_inF, Bool.toNat_false]
    · by_cases c : g 7 k = g 7 o
      · have i0 := ih false
        have e0 : (true && nq g o (j + 1) k) = false := by unfold nq; rw [decide_eq_false (fun z => z c)]; rfl
        rw [e0]
        rw [Bool.false_and] at i0
        rw [← i0]
        simp (disch := omega) only [fX12_isWhole_b64, fX12_isWhole_b64w, fX12_isWhole_b98, fX12_isWhole_b99, zz_lt, li_0, li_1, li_2, li_3, li_4, li_5, li_6, li_7, li_8, li_9, li_10, li_11, li_12, li_15, li_16, li_20, li_21, li_24, li_25, li_26, li_32, li_33, li_38, li_40, li_41, li_42, li_43, li_45, li_47, li_48, li_57, li_58, li_59, li_60, li_61, li_62, li_63, li_74, li_75, li_84, li_91, li_93, li_98, li_100, li_103, li_105, li_107, li_109, li_110, li_111, li_112, li_115, li_118, li_119, li_120, li_121, li_124, li_140, li_180, li_206, li_240, li_255, li_420, li_520, li_999, li_1000, li_1771, li_8240, li_9999, li_88200, li_1000000, li_2097151, li_31, nI_add, pk_mul, zz_sub, zz_an, nI_clamp, zz_leT, zz_leF, zz_ltT, zz_ltF, zz_eqF, zz_eqT, zz_m1, zz_m2, zz_m3, zz_m4, zz_m5, zz_m6, zz_ck, zz_bl, zz_b3, zz_b2, zz_shl, zz_bt0, zz_bt1, pk_div, Nat.zero_add, Nat.add_zero, if_true, if_false, reduceIte, Nat.mul_zero, zz_or0, zz_inT, zz_inF, h1, h2, c, Bool.toNat_true, Bool.toNat_false]
      · have i0 := ih true
        have e0 : (true && nq g o (j + 1) k) = (true && nq g o j (k + 1)) := by
          show (true && (decide (g 7 k ≠ g 7 o) && nq g o j (k + 1))) = _
          rw [decide_eq_true c, Bool.true_and]
        rw [e0, ← i0]
        simp (disch := omega) only [fX12_isWhole_b64, fX12_isWhole_b64w, fX12_isWhole_b98, fX12_isWhole_b99, zz_lt, li_0, li_1, li_2, li_3, li_4, li_5, li_6, li_7, li_8, li_9, li_10, li_11, li_12, li_15, li_16, li_20, li_21, li_24, li_25, li_26, li_32, li_33, li_38, li_40, li_41, li_42, li_43, li_45, li_47, li_48, li_57, li_58, li_59, li_60, li_61, li_62, li_63, li_74, li_75, li_84, li_91, li_93, li_98, li_100, li_103, li_105, li_107, li_109, li_110, li_111, li_112, li_115, li_118, li_119, li_120, li_121, li_124, li_140, li_180, li_206, li_240, li_255, li_420, li_520, li_999, li_1000, li_1771, li_8240, li_9999, li_88200, li_1000000, li_2097151, li_31, nI_add, pk_mul, zz_sub, zz_an, nI_clamp, zz_leT, zz_leF, zz_ltT, zz_ltF, zz_eqF, zz_eqT, zz_m1, zz_m2, zz_m3, zz_m4, zz_m5, zz_m6, zz_ck, zz_bl, zz_b3, zz_b2, zz_shl, zz_bt0, zz_bt1, pk_div, Nat.zero_add, Nat.add_zero, if_true, if_false, reduceIte, Nat.mul_zero, zz_or0, zz_inT, zz_inF, h1, h2, c, Bool.toNat_true]
theorem pm_wh53 {g : Nat → Nat → Nat} (hg : GD g) {I : am_I} (h : DM I g) (n d : Nat) (hn : 10 < n) (L : am_L) (b0 : Bool) : ∀ (j o F : Nat), o + j = g 0 1 → j < F → fX12_isWhole_b53 n d F (nI (b0 && apt g o).toNat) (nI o) I L = some (nI (b0 && apt g (g 0 1)).toNat, I, L)
  | _, _, 0, _, f => by omega
  | 0, o, F + 1, e, f => by
    have q2 := hg.2.1
    have h1 := h.2.1
    have e1 : o = g 0 1 := by omega
    subst e1
    have := bl2 (b0 && apt g (g 0 1))
    simp (disch := omega) only [fX12_isWhole_b53, fX12_isWhole_b53w, zz_lt, li_0, li_1, li_2, li_3, li_4, li_5, li_6, li_7, li_8, li_9, li_10, li_11, li_12, li_15, li_16, li_20, li_21, li_24, li_25, li_26, li_32, li_33, li_38, li_40, li_41, li_42, li_43, li_45, li_47, li_48, li_57, li_58, li_59, li_60, li_61, li_62, li_63, li_74, li_75, li_84, li_91, li_93, li_98, li_100, li_103, li_105, li_107, li_109, li_110, li_111, li_112, li_115, li_118, li_119, li_120, li_121, li_124, li_140, li_180, li_206, li_240, li_255, li_420, li_520, li_999, li_1000, li_1771, li_8240, li_9999, li_88200, li_1000000, li_2097151, li_31, nI_add, pk_mul, zz_sub, zz_an, nI_clamp, zz_leT, zz_leF, zz_ltT, zz_ltF, zz_eqF, zz_eqT, zz_m1, zz_m2, zz_m3, zz_m4, zz_m5, zz_m6, zz_ck, zz_bl, zz_b3, zz_b2, zz_shl, zz_bt0, zz_bt1, pk_div, Nat.zero_add, Nat.add_zero, if_true, if_false, reduceIte, Nat.mul_zero, zz_or0, zz_inT, zz_inF, h1]
  | j + 1, o, F + 1, e, f => by
    have ih := pm_wh53 hg h n d hn L b0 j (o + 1) F (by omega) (by omega)
    have q2 := hg.2.1
    have h1 := h.2.1
    have w := pm_wh64 hg h n d L (fX12_isWhole_b53 n d F) (o := o) (by omega) o 0 n (b0 && apt g o) (by omega) (by omega)
    have e0 : ((b0 && apt g o) && nq g o o 0) = (b0 && apt g (o + 1)) := by
      rw [nq_rl (fun i hi => (hg.2.2.2.2.2 i (by omega)).2.2.1)]
      show _ = (b0 && (apt g o && decide (rl g (g 7 o) o = 0)))
      rw [Bool.and_assoc]
    rw [e0, ih] at w
    rw [← w]
    simp (disch := omega) only [fX12_isWhole_b53, fX12_isWhole_b53w, zz_lt, li_0, li_1, li_2, li_3, li_4, li_5, li_6, li_7, li_8, li_9, li_10, li_11, li_12, li_15, li_16, li_20, li_21, li_24, li_25, li_26, li_32, li_33, li_38, li_40, li_41, li_42, li_43, li_45, li_47, li_48, li_57, li_58, li_59, li_60, li_61, li_62, li_63, li_74, li_75, li_84, li_91, li_93, li_98, li_100, li_103, li_105, li_107, li_109, li_110, li_111, li_112, li_115, li_118, li_119, li_120, li_121, li_124, li_140, li_180, li_206, li_240, li_255, li_420, li_520, li_999, li_1000, li_1771, li_8240, li_9999, li_88200, li_1000000, li_2097151, li_31, nI_add, pk_mul, zz_sub, zz_an, nI_clamp, zz_leT, zz_leF, zz_ltT, zz_ltF, zz_eqF, zz_eqT, zz_m1, zz_m2, zz_m3, zz_m4, zz_m5, zz_m6, zz_ck, zz_bl, zz_b3, zz_b2, zz_shl, zz_bt0, zz_bt1, pk_div, Nat.zero_add, Nat.add_zero, if_true, if_false, reduceIte, Nat.mul_zero, zz_or0, zz_inT, zz_inF, h1]
theorem sd_or : ∀ (x y : Bool) (s : Nat), s < 2 → nI (x.toNat + 2 * y.toNat) ||| nI (2 ^ s) = nI ((x || decide (s = 0)).toNat + 2 * (y || decide (s = 1)).toNat) := by decide
theorem pm_wh4 {g : Nat → Nat → Nat} (hg : GD g) {I : am_I} (h : DM I g) (n d : Nat) (hn : 10 < n) (L : am_L) : ∀ (j i F : Nat), i + j = g 0 0 → j < F → fX12_isWhole_b4 n d F (nI ((anyS g 0 i).toNat + 2 * (anyS g 1 i).toNat)) (nI i) I L = some (nI (whB g).toNat, I, L)
  | _, _, 0, _, f => by omega
  | 0, i, F + 1, e, f => by
    have q1 := hg.1
    have h1 := h.1
    have e1 : i = g 0 0 := by omega
    subst e1
    have w0 := pm_wh53 hg h n d hn L false (g 0 1) 0 n (by omega) (by have := hg.2.1; omega)
    have w1 := pm_wh53 hg h n d hn L true (g 0 1) 0 n (by omega) (by have := hg.2.1; omega)
    rw [Bool.false_and, Bool.false_and] at w0
    have z : (true && apt g 0) = true := rfl
    rw [z, Bool.true_and] at w1
    simp only [Bool.toNat_true, Bool.toNat_false] at w0 w1
    unfold whB
    by_cases c1 : 2 ≤ g 0 0
    · cases c2 : anyS g 0 (g 0 0) <;> cases c3 : anyS g 1 (g 0 0) <;> simp (disch := omega) only [fX12_isWhole_b4, fX12_isWhole_b4w, fX12_isWhole_b49, fX12_isWhole_b50, zz_lt, li_0, li_1, li_2, li_3, li_4, li_5, li_6, li_7, li_8, li_9, li_10, li_11, li_12, li_15, li_16, li_20, li_21, li_24, li_25, li_26, li_32, li_33, li_38, li_40, li_41, li_42, li_43, li_45, li_47, li_48, li_57, li_58, li_59, li_60, li_61, li_62, li_63, li_74, li_75, li_84, li_91, li_93, li_98, li_100, li_103, li_105, li_107, li_109, li_110, li_111, li_112, li_115, li_118, li_119, li_120, li_121, li_124, li_140, li_180, li_206, li_240, li_255, li_420, li_520, li_999, li_1000, li_1771, li_8240, li_9999, li_88200, li_1000000, li_2097151, li_31, nI_add, pk_mul, zz_sub, zz_an, nI_clamp, zz_leT, zz_leF, zz_ltT, zz_ltF, zz_eqF, zz_eqT, zz_m1, zz_m2, zz_m3, zz_m4, zz_m5, zz_m6, zz_ck, zz_bl, zz_b3, zz_b2, zz_shl, zz_bt0, zz_bt1, pk_div, Nat.zero_add, Nat.add_zero, if_true, if_false, reduceIte, Nat.mul_zero, zz_or0, zz_inT, zz_inF, h1, w0, w1, c1, Bool.toNat_true, Bool.toNat_false, Nat.reduceMul, Nat.reduceAdd, decide_true, Bool.true_and, Bool.false_and, Bool.and_false, Bool.and_true, Bool.and_self]
    · simp (disch := omega) only [fX12_isWhole_b4, fX12_isWhole_b4w, fX12_isWhole_b49, fX12_isWhole_b50, zz_lt, li_0, li_1, li_2, li_3, li_4, li_5, li_6, li_7, li_8, li_9, li_10, li_11, li_12, li_15, li_16, li_20, li_21, li_24, li_25, li_26, li_32, li_33, li_38, li_40, li_41, li_42, li_43, li_45, li_47, li_48, li_57, li_58, li_59, li_60, li_61, li_62, li_63, li_74, li_75, li_84, li_91, li_93, li_98, li_100, li_103, li_105, li_107, li_109, li_110, li_111, li_112, li_115, li_118, li_119, li_120, li_121, li_124, li_140, li_180, li_206, li_240, li_255, li_420, li_520, li_999, li_1000, li_1771, li_8240, li_9999, li_88200, li_1000000, li_2097151, li_31, nI_add, pk_mul, zz_sub, zz_an, nI_clamp, zz_leT, zz_leF, zz_ltT, zz_ltF, zz_eqF, zz_eqT, zz_m1, zz_m2, zz_m3, zz_m4, zz_m5, zz_m6, zz_ck, zz_bl, zz_b3, zz_b2, zz_shl, zz_bt0, zz_bt1, pk_div, Nat.zero_add, Nat.add_zero, if_true, if_false, reduceIte, Nat.mul_zero, zz_or0, zz_inT, zz_inF, h1, w0, c1, decide_false, Bool.false_and, Bool.toNat_false]
  | j + 1, i, F + 1, e, f => by
    have ih := pm_wh4 hg h n d hn L j (i + 1) F (by omega) (by omega)
    have q1 := hg.1
    have h1 := h.1
    have h2 := h.2.2.2.2.1 i (by omega) 0 (by omega)
    rw [Nat.add_zero] at h2
    simp only [Nat.zero_add] at h2
    have g1 := hg.2.2.2.2.1 i (by omega)
    have so' := sd_or (anyS g 0 i) (anyS g 1 i) (g 1 i) (by omega)
    have e0 : anyS g 0 (i + 1) = (anyS g 0 i || decide (g 1 i = 0)) := rfl
    have e1 : anyS g 1 (i + 1) = (anyS g 1 i || decide (g 1 i = 1)) := rfl
    rw [e0, e1, ← so'] at ih
    rw [← ih]
    simp (disch := omega) only [fX12_isWhole_b4, fX12_isWhole_b4w, zz_lt, li_0, li_1, li_2, li_3, li_4, li_5, li_6, li_7, li_8, li_9, li_10, li_11, li_12, li_15, li_16, li_20, li_21, li_24, li_25, li_26, li_32, li_33, li_38, li_40, li_41, li_42, li_43, li_45, li_47, li_48, li_57, li_58, li_59, li_60, li_61, li_62, li_63, li_74, li_75, li_84, li_91, li_93, li_98, li_100, li_103, li_105, li_107, li_109, li_110, li_111, li_112, li_115, li_118, li_119, li_120, li_121, li_124, li_140, li_180, li_206, li_240, li_255, li_420, li_520, li_999, li_1000, li_1771, li_8240, li_9999, li_88200, li_1000000, li_2097151, li_31, nI_add, pk_mul, zz_sub, zz_an, nI_clamp, zz_leT, zz_leF, zz_ltT, zz_ltF, zz_eqF, zz_eqT, zz_m1, zz_m2, zz_m3, zz_m4, zz_m5, zz_m6, zz_ck, zz_bl, zz_b3, zz_b2, zz_shl, zz_bt0, zz_bt1, pk_div, Nat.zero_add, Nat.add_zero, if_true, if_false, reduceIte, Nat.mul_zero, zz_or0, zz_inT, zz_inF, h1, h2]
theorem pm_wh {g : Nat → Nat → Nat} (hg : GD g) {I : am_I} (h : DM I g) (n d : Nat) (hn : 10 < n) (L : am_L) : fX12_isWhole n d I L = some (nI (whB g).toNat, I, L) := by
  unfold fX12_isWhole
  rw [zz_lt, zz_lt, li_0]
  exact pm_wh4 hg h n d hn L (g 0 0) 0 n (by omega) (by have := hg.1; omega)
