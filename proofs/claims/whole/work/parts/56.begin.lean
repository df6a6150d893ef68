/-! PURE: a war begun. -/
theorem bits_n {μ : Nat} {p : Nat → Bool} (hμ : μ ≤ 32) (h : ∀ m, p m = false) : am_bits p μ = nI 0 := by
  apply b_ext
  intro k hk
  rw [bt_bits p μ hμ k hk, h k, Bool.and_false]
  exact (b_0 k).symm
theorem bgL {g : Nat → Nat → Nat} (gm : g 0 0 ≤ 8) (g2 : ∀ m, m < g 0 0 → g 2 m ≤ 20) (n d : Nat) (L : am_L) : ∀ (j i F : Nat) (I : am_I), i + j = g 0 0 → j < F → I 3 0 = nI (g 0 0) → (∀ m, m < g 0 0 → I 5 m = nI (g 2 m)) → (∀ s, s ≤ 20 → I 12 s = nI (gRest g s)) → (∀ m, m < i → I 40 m = nI (g 2 m) ∧ I 41 m = nI (gRest g (g 2 m))) → ∃ I', fX7_begin_b17 n d F (nI i) I L = am_b2 (fX7_lookAtAll n d I' L) (fun I1 L1 => some (I1, L1)) ∧ (∀ m, m < g 0 0 → I' 40 m = nI (g 2 m) ∧ I' 41 m = nI (gRest g (g 2 m))) ∧ (∀ k, k ≠ 40 → k ≠ 41 → I' k = I k)
  | _, _, 0, _, _, f, _, _, _, _ => by omega
  | 0, i, F + 1, I, e, f, h0, h5, h12, h => by
    have e1 : i = g 0 0 := by omega
    subst e1
    refine ⟨I, ?_, h, fun k _ _ => rfl⟩
    simp (disch := omega) only [fX7_begin_b17, fX7_begin_b17w, zz_lt, li_0, li_1, li_2, li_3, li_4, li_5, li_6, li_7, li_8, li_9, li_10, li_11, li_12, li_15, li_16, li_20, li_21, li_24, li_25, li_26, li_32, li_33, li_38, li_40, li_41, li_42, li_43, li_45, li_47, li_48, li_57, li_58, li_59, li_60, li_61, li_62, li_63, li_74, li_75, li_84, li_91, li_93, li_98, li_100, li_103, li_105, li_107, li_109, li_110, li_111, li_112, li_115, li_118, li_119, li_120, li_121, li_124, li_140, li_180, li_206, li_240, li_255, li_420, li_520, li_999, li_1000, li_1771, li_8240, li_9999, li_88200, li_1000000, li_2097151, li_31, nI_add, pk_mul, zz_sub, zz_an, nI_clamp, zz_leT, zz_leF, zz_ltT, zz_ltF, zz_eqF, zz_eqT, zz_m1, zz_m2, zz_m3, zz_m4, zz_m5, zz_m6, zz_ck, zz_bl, zz_b3, zz_b2, zz_shl, zz_bt0, zz_bt1, pk_div, Nat.zero_add, Nat.add_zero, if_true, if_false, reduceIte, Nat.mul_zero, zz_or0, zz_inT, zz_inF, h0]
  | j + 1, i, F + 1, I, e, f, h0, h5, h12, h => by
    have b2 := g2 i (by omega)
    have r1 := pc_rest n d (I := am_up I 40 i (nI (g 2 i))) L b2 (r := gRest g (g 2 i)) (by rw [am_up_ne (by omega)]; exact h12 _ b2)
    obtain ⟨I', w1, w2, w3⟩ := bgL gm g2 n d L j (i + 1) F (am_up (am_up I 40 i (nI (g 2 i))) 41 i (nI (gRest g (g 2 i)))) (by omega) (by omega) (by rw [am_up_ne (by omega), am_up_ne (by omega)]; exact h0) (fun m hm => by rw [am_up_ne (by omega), am_up_ne (by omega)]; exact h5 m hm) (fun m hm => by rw [am_up_ne (by omega), am_up_ne (by omega)]; exact h12 m hm) (fun m hm => by
      by_cases c : m = i
      · subst c
        exact ⟨by rw [am_up_ne (by omega), up_s rfl], up_s rfl⟩
      · rw [am_up_ne (by omega), up_n c, up_n c, am_up_ne (by omega)]
        exact h m (by omega))
    refine ⟨I', ?_, w2, fun k c1 c2 => by rw [w3 k c1 c2, am_up_ne c2, am_up_ne c1]⟩
    rw [← w1]
    simp (disch := omega) only [fX7_begin_b17, fX7_begin_b17w, zz_lt, li_0, li_1, li_2, li_3, li_4, li_5, li_6, li_7, li_8, li_9, li_10, li_11, li_12, li_15, li_16, li_20, li_21, li_24, li_25, li_26, li_32, li_33, li_38, li_40, li_41, li_42, li_43, li_45, li_47, li_48, li_57, li_58, li_59, li_60, li_61, li_62, li_63, li_74, li_75, li_84, li_91, li_93, li_98, li_100, li_103, li_105, li_107, li_109, li_110, li_111, li_112, li_115, li_118, li_119, li_120, li_121, li_124, li_140, li_180, li_206, li_240, li_255, li_420, li_520, li_999, li_1000, li_1771, li_8240, li_9999, li_88200, li_1000000, li_2097151, li_31, nI_add, pk_mul, zz_sub, zz_an, nI_clamp, zz_leT, zz_leF, zz_ltT, zz_ltF, zz_eqF, zz_eqT, zz_m1, zz_m2, zz_m3, zz_m4, zz_m5, zz_m6, zz_ck, zz_bl, zz_b3, zz_b2, zz_shl, zz_bt0, zz_bt1, pk_div, Nat.zero_add, Nat.add_zero, if_true, if_false, reduceIte, Nat.mul_zero, zz_or0, zz_inT, zz_inF, h0, h5, up_s, r1]
def sBg (k j : Nat) : Bool := scrC k j || decide (39 ≤ k ∧ k ≤ 41)
theorem sBg_of {k j : Nat} (h : sBg k j = false) : scrC k j = false ∧ ¬(39 ≤ k ∧ k ≤ 41) := by
  unfold sBg at h
  simp at h
  exact ⟨h.1, fun z => by have := h.2 z.1; omega⟩
theorem pc_begin {g : Nat → Nat → Nat} {W : Nat → (Nat → Nat) → Int32} {q : Nat → Nat} (hg : GW g) (hl : GL q) (e9 : ∀ m, g 9 m = g 2 m) (e10 : ∀ m, g 10 m = gRest g (g 2 m)) (e11 : ∀ m, g 11 m = 0) (e4 : g 0 4 = 0) (n d : Nat) (hn : 2000 < n) (L : am_L) {I : am_I} (hL : CL I W q) (h0 : I 3 0 = nI (g 0 0)) (h1 : I 3 1 = nI (g 0 1)) (h2 : I 3 2 = nI (g 0 2)) (h3 : I 3 3 = nI (g 0 3)) (r4 : ∀ m, m < g 0 0 → I 4 m = nI (g 1 m)) (r5 : ∀ m, m < g 0 0 → I 5 m = nI (g 2 m)) (r6 : ∀ m, m < g 0 0 → I 6 m = nI (g 3 m)) (r7 : ∀ m, m < g 0 0 → I 7 m = nI (g 4 m)) (r8 : ∀ m, m < g 0 0 → I 8 m = nI (g 5 m)) (r9 : ∀ m, m < g 0 0 → I 9 m = nI (g 6 m)) (r10 : ∀ m, m < g 0 1 → I 10 m = nI (g 7 m)) (r11 : ∀ m, m < g 0 1 → I 11 m = nI (g 8 m)) (r12 : ∀ s, s ≤ 20 → I 12 s = nI (gRest g s)) (s0 : I 13 0 = am_bits (fun m => decide (g 1 m = 0)) (g 0 0)) (s1 : I 13 1 = am_bits (fun m => decide (g 1 m = 1)) (g 0 0)) : ∃ I', fX7_begin n d I L = some (I', L) ∧ CS I' g ∧ CH I' W q g ∧ am_ag sBg I I' := by
  have gm := hg.1
  obtain ⟨I0, hI0⟩ : ∃ I0, I0 = am_up (am_up (am_up I 39 4 (nI 0)) 39 5 (nI 0)) 39 6 (nI 0) := ⟨_, rfl⟩
  have z : ∀ k, k ≠ 39 → I0 k = I k := fun k hk => by rw [hI0, am_up_ne hk, am_up_ne hk, am_up_ne hk]
  obtain ⟨I1, w1, w2, w3⟩ := bgL gm (fun m hm => (hg.2.2.2.2.2.1 m hm).2.1) n d L (g 0 0) 0 n I0 (by omega) (by omega) (by rw [z 3 (by omega)]; exact h0) (fun m hm => by rw [z 5 (by omega)]; exact r5 m hm) (fun m hm => by rw [z 12 (by omega)]; exact r12 m hm) (fun m hm => by omega)
  have z1 : ∀ k, k ≠ 39 → k ≠ 40 → k ≠ 41 → I1 k = I k := fun k a b c => by rw [w3 k b c, z k a]
  have cs : CS I1 g := by
    refine ⟨?_, ?_, ?_, ?_, ?_, fun m hm => ?_, fun m hm => ?_, fun m hm => ?_, fun m hm => ?_, fun m hm => ?_, fun m hm => ?_, fun m hm => ?_, fun m hm => ?_, fun m hm => ?_, fun m hm => ?_, ?_, fun s hs => ?_, ?_, ?_⟩
    · rw [z1 3 (by omega) (by omega) (by omega)]; exact h0
    · rw [z1 3 (by omega) (by omega) (by omega)]; exact h1
    · rw [z1 3 (by omega) (by omega) (by omega)]; exact h2
    · rw [z1 3 (by omega) (by omega) (by omega)]; exact h3
    · rw [w3 39 (by omega) (by omega), hI0, up_n (by omega), up_s rfl, e4]
    · rw [z1 4 (by omega) (by omega) (by omega)]; exact r4 m hm
    · rw [z1 5 (by omega) (by omega) (by omega)]; exact r5 m hm
    · rw [z1 6 (by omega) (by omega) (by omega)]; exact r6 m hm
    · rw [z1 7 (by omega) (by omega) (by omega)]; exact r7 m hm
    · rw [z1 8 (by omega) (by omega) (by omega)]; exact r8 m hm
    · rw [z1 9 (by omega) (by omega) (by omega)]; exact r9 m hm
    · rw [z1 10 (by omega) (by omega) (by omega)]; exact r10 m hm
    · rw [z1 11 (by omega) (by omega) (by omega)]; exact r11 m hm
    · rw [(w2 m hm).1, e9]
    · rw [(w2 m hm).2, e10]
    · rw [w3 39 (by omega) (by omega), hI0, up_n (by omega), up_n (by omega), up_s rfl, bits_n (by omega) (fun m => by rw [e11]; rfl)]
    · rw [z1 12 (by omega) (by omega) (by omega)]; exact r12 s hs
    · rw [z1 13 (by omega) (by omega) (by omega)]; exact s0
    · rw [z1 13 (by omega) (by omega) (by omega)]; exact s1
  have cl : CL I1 W q := CL_up hl hL (fun k a b => z1 k (by omega) (by omega) (by omega))
  obtain ⟨I2, v1, v2, v3⟩ := pc_lookAll hg hl n d hn cs cl L (fun k _ _ => by rw [w3 39 (by omega) (by omega), hI0, up_s rfl]; exact b_0 k)
  refine ⟨I2, ?_, CS_keepH cs v2, v3, fun k j hk => ?_⟩
  · have w1' := w1
    rw [hI0, v1] at w1'
    simp (disch := omega) only [fX7_begin, zz_lt, li_0, li_1, li_2, li_3, li_4, li_5, li_6, li_7, li_8, li_9, li_10, li_11, li_12, li_15, li_16, li_20, li_21, li_24, li_25, li_26, li_32, li_33, li_38, li_40, li_41, li_42, li_43, li_45, li_47, li_48, li_57, li_58, li_59, li_60, li_61, li_62, li_63, li_74, li_75, li_84, li_91, li_93, li_98, li_100, li_103, li_105, li_107, li_109, li_110, li_111, li_112, li_115, li_118, li_119, li_120, li_121, li_124, li_140, li_180, li_206, li_240, li_255, li_420, li_520, li_999, li_1000, li_1771, li_8240, li_9999, li_88200, li_1000000, li_2097151, li_31, nI_add, pk_mul, zz_sub, zz_an, nI_clamp, zz_leT, zz_leF, zz_ltT, zz_ltF, zz_eqF, zz_eqT, zz_m1, zz_m2, zz_m3, zz_m4, zz_m5, zz_m6, zz_ck, zz_bl, zz_b3, zz_b2, zz_shl, zz_bt0, zz_bt1, pk_div, Nat.zero_add, Nat.add_zero, if_true, if_false, reduceIte, Nat.mul_zero, zz_or0, zz_inT, zz_inF, w1']
  · obtain ⟨a, b⟩ := sBg_of hk
    have c : scH k j = false := by
      unfold scH
      rw [a]
      have : ¬ k = 39 := by omega
      simp [this]
    rw [v2 k j c, z1 k (by omega) (by omega) (by omega)]
theorem tk18 (n d : Nat) (L : am_L) : ∀ (j i F : Nat) (I : am_I), i + j = 48 → j < F → ∃ I', fX12_takeWar_b18 n d F (nI i) I L = fX12_takeWar_b44 n d n (nI 0) I' L ∧ (∀ x, i ≤ x → x < 48 → I' 14 x = I 11 x) ∧ (∀ x, x < i → I' 14 x = I 14 x) ∧ (∀ k, k ≠ 14 → I' k = I k)
  | _, _, 0, _, _, f => by omega
  | 0, i, F + 1, I, e, f => by
    refine ⟨I, ?_, fun x _ _ => by omega, fun _ _ => rfl, fun _ _ => rfl⟩
    simp (disch := omega) only [fX12_takeWar_b18, fX12_takeWar_b18w, zz_lt, li_0, li_1, li_2, li_3, li_4, li_5, li_6, li_7, li_8, li_9, li_10, li_11, li_12, li_15, li_16, li_20, li_21, li_24, li_25, li_26, li_32, li_33, li_38, li_40, li_41, li_42, li_43, li_45, li_47, li_48, li_57, li_58, li_59, li_60, li_61, li_62, li_63, li_74, li_75, li_84, li_91, li_93, li_98, li_100, li_103, li_105, li_107, li_109, li_110, li_111, li_112, li_115, li_118, li_119, li_120, li_121, li_124, li_140, li_180, li_206, li_240, li_255, li_420, li_520, li_999, li_1000, li_1771, li_8240, li_9999, li_88200, li_1000000, li_2097151, li_31, nI_add, pk_mul, zz_sub, zz_an, nI_clamp, zz_leT, zz_leF, zz_ltT, zz_ltF, zz_eqF, zz_eqT, zz_m1, zz_m2, zz_m3, zz_m4, zz_m5, zz_m6, zz_ck, zz_bl, zz_b3, zz_b2, zz_shl, zz_bt0, zz_bt1, pk_div, Nat.zero_add, Nat.add_zero, if_true, if_false, reduceIte, Nat.mul_zero, zz_or0, zz_inT, zz_inF]
  | j + 1, i, F + 1, I, e, f => by
    obtain ⟨I', w1, w2, w3, w4⟩ := tk18 n d L j (i + 1) F (am_up I 14 i (I 11 i)) (by omega) (by omega)
    refine ⟨I', ?_, fun x a b => ?_, fun x a => by rw [w3 x (by omega), up_n (by omega)], fun k hk => by rw [w4 k hk, am_up_ne hk]⟩
    · rw [← w1]
      simp (disch := omega) only [fX12_takeWar_b18, fX12_takeWar_b18w, zz_lt, li_0, li_1, li_2, li_3, li_4, li_5, li_6, li_7, li_8, li_9, li_10, li_11, li_12, li_15, li_16, li_20, li_21, li_24, li_25, li_26, li_32, li_33, li_38, li_40, li_41, li_42, li_43, li_45, li_47, li_48, li_57, li_58, li_59, li_60, li_61, li_62, li_63, li_74, li_75, li_84, li_91, li_93, li_98, li_100, li_103, li_105, li_107, li_109, li_110, li_111, li_112, li_115, li_118, li_119, li_120, li_121, li_124, li_140, li_180, li_206, li_240, li_255, li_420, li_520, li_999, li_1000, li_1771, li_8240, li_9999, li_88200, li_1000000, li_2097151, li_31, nI_add, pk_mul, zz_sub, zz_an, nI_clamp, zz_leT, zz_leF, zz_ltT, zz_ltF, zz_eqF, zz_eqT, zz_m1, zz_m2, zz_m3, zz_m4, zz_m5, zz_m6, zz_ck, zz_bl, zz_b3, zz_b2, zz_shl, zz_bt0, zz_bt1, pk_div, Nat.zero_add, Nat.add_zero, if_true, if_false, reduceIte, Nat.mul_zero, zz_or0, zz_inT, zz_inF]
    · by_cases c : x = i
      · rw [w3 x (by omega), up_s c, c]
      · rw [w2 x (by omega) b, am_up_ne (by omega)]
theorem tk44 (n d : Nat) (L : am_L) : ∀ (j i F : Nat) (I : am_I), i + j = 12 → j < F → ∃ I', fX12_takeWar_b44 n d F (nI i) I L = fX12_takeWar_b94 n d n (nI 0) (am_up (am_up I' 16 0 (I 13 0)) 16 1 (I 13 1)) L ∧ (∀ x, i ≤ x → x < 12 → I' 15 x = I 12 x) ∧ (∀ x, x < i → I' 15 x = I 15 x) ∧ (∀ k, k ≠ 15 → I' k = I k)
  | _, _, 0, _, _, f => by omega
  | 0, i, F + 1, I, e, f => by
    refine ⟨I, ?_, fun x _ _ => by omega, fun _ _ => rfl, fun _ _ => rfl⟩
    simp (disch := omega) only [fX12_takeWar_b44, fX12_takeWar_b44w, zz_lt, li_0, li_1, li_2, li_3, li_4, li_5, li_6, li_7, li_8, li_9, li_10, li_11, li_12, li_15, li_16, li_20, li_21, li_24, li_25, li_26, li_32, li_33, li_38, li_40, li_41, li_42, li_43, li_45, li_47, li_48, li_57, li_58, li_59, li_60, li_61, li_62, li_63, li_74, li_75, li_84, li_91, li_93, li_98, li_100, li_103, li_105, li_107, li_109, li_110, li_111, li_112, li_115, li_118, li_119, li_120, li_121, li_124, li_140, li_180, li_206, li_240, li_255, li_420, li_520, li_999, li_1000, li_1771, li_8240, li_9999, li_88200, li_1000000, li_2097151, li_31, nI_add, pk_mul, zz_sub, zz_an, nI_clamp, zz_leT, zz_leF, zz_ltT, zz_ltF, zz_eqF, zz_eqT, zz_m1, zz_m2, zz_m3, zz_m4, zz_m5, zz_m6, zz_ck, zz_bl, zz_b3, zz_b2, zz_shl, zz_bt0, zz_bt1, pk_div, Nat.zero_add, Nat.add_zero, if_true, if_false, reduceIte, Nat.mul_zero, zz_or0, zz_inT, zz_inF, am_up_ne]
  | j + 1, i, F + 1, I, e, f => by
    obtain ⟨I', w1, w2, w3, w4⟩ := tk44 n d L j (i + 1) F (am_up I 15 i (I 12 i)) (by omega) (by omega)
    rw [am_up_ne (by omega)] at w1
    refine ⟨I', ?_, fun x a b => ?_, fun x a => by rw [w3 x (by omega), up_n (by omega)], fun k hk => by rw [w4 k hk, am_up_ne hk]⟩
    · rw [← w1]
      simp (disch := omega) only [fX12_takeWar_b44, fX12_takeWar_b44w, zz_lt, li_0, li_1, li_2, li_3, li_4, li_5, li_6, li_7, li_8, li_9, li_10, li_11, li_12, li_15, li_16, li_20, li_21, li_24, li_25, li_26, li_32, li_33, li_38, li_40, li_41, li_42, li_43, li_45, li_47, li_48, li_57, li_58, li_59, li_60, li_61, li_62, li_63, li_74, li_75, li_84, li_91, li_93, li_98, li_100, li_103, li_105, li_107, li_109, li_110, li_111, li_112, li_115, li_118, li_119, li_120, li_121, li_124, li_140, li_180, li_206, li_240, li_255, li_420, li_520, li_999, li_1000, li_1771, li_8240, li_9999, li_88200, li_1000000, li_2097151, li_31, nI_add, pk_mul, zz_sub, zz_an, nI_clamp, zz_leT, zz_leF, zz_ltT, zz_ltF, zz_eqF, zz_eqT, zz_m1, zz_m2, zz_m3, zz_m4, zz_m5, zz_m6, zz_ck, zz_bl, zz_b3, zz_b2, zz_shl, zz_bt0, zz_bt1, pk_div, Nat.zero_add, Nat.add_zero, if_true, if_false, reduceIte, Nat.mul_zero, zz_or0, zz_inT, zz_inF]
    · by_cases c : x = i
      · rw [w3 x (by omega), up_s c, c]
      · rw [w2 x (by omega) b, am_up_ne (by omega)]
theorem tk94 (n d : Nat) (L : am_L) {M : Nat} (hM : M = 206) : ∀ (j i F : Nat) (I : am_I), i + j = M → j < F → ∃ I', fX12_takeWar_b94 n d F (nI i) I L = fX12_takeWar_b116 n d n (nI 0) I' L ∧ (∀ x, i ≤ x → x < M → I' 17 x = nI 0) ∧ (∀ x, x < i → I' 17 x = I 17 x) ∧ (∀ k, k ≠ 17 → I' k = I k)
  | _, _, 0, _, _, f => by omega
  | 0, i, F + 1, I, e, f => by
    refine ⟨I, ?_, fun x _ _ => by omega, fun _ _ => rfl, fun _ _ => rfl⟩
    simp (disch := omega) only [fX12_takeWar_b94, fX12_takeWar_b94w, zz_lt, li_0, li_1, li_2, li_3, li_4, li_5, li_6, li_7, li_8, li_9, li_10, li_11, li_12, li_15, li_16, li_20, li_21, li_24, li_25, li_26, li_32, li_33, li_38, li_40, li_41, li_42, li_43, li_45, li_47, li_48, li_57, li_58, li_59, li_60, li_61, li_62, li_63, li_74, li_75, li_84, li_91, li_93, li_98, li_100, li_103, li_105, li_107, li_109, li_110, li_111, li_112, li_115, li_118, li_119, li_120, li_121, li_124, li_140, li_180, li_206, li_240, li_255, li_420, li_520, li_999, li_1000, li_1771, li_8240, li_9999, li_88200, li_1000000, li_2097151, li_31, nI_add, pk_mul, zz_sub, zz_an, nI_clamp, zz_leT, zz_leF, zz_ltT, zz_ltF, zz_eqF, zz_eqT, zz_m1, zz_m2, zz_m3, zz_m4, zz_m5, zz_m6, zz_ck, zz_bl, zz_b3, zz_b2, zz_shl, zz_bt0, zz_bt1, pk_div, Nat.zero_add, Nat.add_zero, if_true, if_false, reduceIte, Nat.mul_zero, zz_or0, zz_inT, zz_inF]
  | j + 1, i, F + 1, I, e, f => by
    obtain ⟨I', w1, w2, w3, w4⟩ := tk94 n d L hM j (i + 1) F (am_up I 17 i (nI 0)) (by omega) (by omega)
    refine ⟨I', ?_, fun x a b => ?_, fun x a => by rw [w3 x (by omega), up_n (by omega)], fun k hk => by rw [w4 k hk, am_up_ne hk]⟩
    · rw [← w1]
      simp (disch := omega) only [fX12_takeWar_b94, fX12_takeWar_b94w, zz_lt, li_0, li_1, li_2, li_3, li_4, li_5, li_6, li_7, li_8, li_9, li_10, li_11, li_12, li_15, li_16, li_20, li_21, li_24, li_25, li_26, li_32, li_33, li_38, li_40, li_41, li_42, li_43, li_45, li_47, li_48, li_57, li_58, li_59, li_60, li_61, li_62, li_63, li_74, li_75, li_84, li_91, li_93, li_98, li_100, li_103, li_105, li_107, li_109, li_110, li_111, li_112, li_115, li_118, li_119, li_120, li_121, li_124, li_140, li_180, li_206, li_240, li_255, li_420, li_520, li_999, li_1000, li_1771, li_8240, li_9999, li_88200, li_1000000, li_2097151, li_31, nI_add, pk_mul, zz_sub, zz_an, nI_clamp, zz_leT, zz_leF, zz_ltT, zz_ltF, zz_eqF, zz_eqT, zz_m1, zz_m2, zz_m3, zz_m4, zz_m5, zz_m6, zz_ck, zz_bl, zz_b3, zz_b2, zz_shl, zz_bt0, zz_bt1, pk_div, Nat.zero_add, Nat.add_zero, if_true, if_false, reduceIte, Nat.mul_zero, zz_or0, zz_inT, zz_inF]
    · by_cases c : x = i
      · rw [w3 x (by omega), up_s c]
      · exact w2 x (by omega) b
theorem tk116 {g : Nat → Nat → Nat} (gm : g 0 0 ≤ 8) (gg : g 0 1 ≤ 6) (g2 : ∀ m, m < g 0 0 → g 2 m ≤ 20) (go : ∀ o, o < g 0 1 → g 7 o ≤ 20) (n d : Nat) (hn : 8 < n) (L : am_L) : ∀ (j i F : Nat) (I : am_I), i + j = g 0 0 → j < F → I 0 25 = nI (g 0 0) → I 0 26 = nI (g 0 1) → (∀ m, m < g 0 1 → I 15 (2 * m) = nI (g 7 m)) → (∀ m, m < g 0 1 → I 15 (2 * m + 1) = nI (g 8 m)) → (∀ m, m < g 0 0 → I 14 (6 * m + 1) = nI (g 2 m)) → (∀ m, m < i → I 17 m = nI (g 2 m) ∧ I 17 (8 + m) = nI (gRest g (g 2 m))) → ∃ I', fX12_takeWar_b116 n d F (nI i) I L = some (nI (g 0 0), am_up (am_up (am_up I' 0 39 (nI 0)) 0 30 (nI 0)) 0 43 (nI 0), L) ∧ (∀ m, m < g 0 0 → I' 17 m = nI (g 2 m) ∧ I' 17 (8 + m) = nI (gRest g (g 2 m))) ∧ (∀ x, 16 ≤ x → I' 17 x = I 17 x) ∧ (∀ k, k ≠ 17 → I' k = I k)
  | _, _, 0, _, _, f, _, _, _, _, _, _ => by omega
  | 0, i, F + 1, I, e, f, h25, h26, o0, o1, h14, h => by
    have e1 : i = g 0 0 := by omega
    subst e1
    refine ⟨I, ?_, h, fun _ _ => rfl, fun _ _ => rfl⟩
    simp (disch := omega) only [fX12_takeWar_b116, fX12_takeWar_b116w, zz_lt, li_0, li_1, li_2, li_3, li_4, li_5, li_6, li_7, li_8, li_9, li_10, li_11, li_12, li_15, li_16, li_20, li_21, li_24, li_25, li_26, li_32, li_33, li_38, li_40, li_41, li_42, li_43, li_45, li_47, li_48, li_57, li_58, li_59, li_60, li_61, li_62, li_63, li_74, li_75, li_84, li_91, li_93, li_98, li_100, li_103, li_105, li_107, li_109, li_110, li_111, li_112, li_115, li_118, li_119, li_120, li_121, li_124, li_140, li_180, li_206, li_240, li_255, li_420, li_520, li_999, li_1000, li_1771, li_8240, li_9999, li_88200, li_1000000, li_2097151, li_31, nI_add, pk_mul, zz_sub, zz_an, nI_clamp, zz_leT, zz_leF, zz_ltT, zz_ltF, zz_eqF, zz_eqT, zz_m1, zz_m2, zz_m3, zz_m4, zz_m5, zz_m6, zz_ck, zz_bl, zz_b3, zz_b2, zz_shl, zz_bt0, zz_bt1, pk_div, Nat.zero_add, Nat.add_zero, if_true, if_false, reduceIte, Nat.mul_zero, zz_or0, zz_inT, zz_inF, h25, up_n]
  | j + 1, i, F + 1, I, e, f, h25, h26, o0, o1, h14, h => by
    have b2 := g2 i (by omega)
    have r1 : fX12_restAt n d (nI (g 2 i)) (am_up I 17 i (nI (g 2 i))) L = some (nI (gRest g (g 2 i)), am_up I 17 i (nI (g 2 i)), L) :=
      pm_restL gg go n d L (by rw [am_up_ne (by omega)]; exact h26) (by rw [am_up_ne (by omega)]; exact o0) (by rw [am_up_ne (by omega)]; exact o1) (by omega) (g 0 1) 0 n (by omega) (by omega)
    obtain ⟨I', w1, w2, w3, w4⟩ := tk116 gm gg g2 go n d hn L j (i + 1) F (am_up (am_up I 17 i (nI (g 2 i))) 17 (8 + i) (nI (gRest g (g 2 i)))) (by omega) (by omega) (by rw [am_up_ne (by omega), am_up_ne (by omega)]; exact h25) (by rw [am_up_ne (by omega), am_up_ne (by omega)]; exact h26) (by rw [am_up_ne (by omega), am_up_ne (by omega)]; exact o0) (by rw [am_up_ne (by omega), am_up_ne (by omega)]; exact o1) (by rw [am_up_ne (by omega), am_up_ne (by omega)]; exact h14) (fun m hm => by
      by_cases c : m = i
      · subst c
        exact ⟨by rw [up_n (by omega), up_s rfl], up_s rfl⟩
      · rw [up_n (by omega), up_n c, up_n (by omega), up_n (by omega)]
        exact h m (by omega))
    refine ⟨I', ?_, w2, fun x hx => by rw [w3 x hx, up_n (by omega), up_n (by omega)], fun k hk => by rw [w4 k hk, am_up_ne hk, am_up_ne hk]⟩
    rw [← w1]
    have h1 := h14 i (by omega)
    simp (disch := omega) only [fX12_takeWar_b116, fX12_takeWar_b116w, fX12_comes, zz_lt, li_0, li_1, li_2, li_3, li_4, li_5, li_6, li_7, li_8, li_9, li_10, li_11, li_12, li_15, li_16, li_20, li_21, li_24, li_25, li_26, li_32, li_33, li_38, li_40, li_41, li_42, li_43, li_45, li_47, li_48, li_57, li_58, li_59, li_60, li_61, li_62, li_63, li_74, li_75, li_84, li_91, li_93, li_98, li_100, li_103, li_105, li_107, li_109, li_110, li_111, li_112, li_115, li_118, li_119, li_120, li_121, li_124, li_140, li_180, li_206, li_240, li_255, li_420, li_520, li_999, li_1000, li_1771, li_8240, li_9999, li_88200, li_1000000, li_2097151, li_31, nI_add, pk_mul, zz_sub, zz_an, nI_clamp, zz_leT, zz_leF, zz_ltT, zz_ltF, zz_eqF, zz_eqT, zz_m1, zz_m2, zz_m3, zz_m4, zz_m5, zz_m6, zz_ck, zz_bl, zz_b3, zz_b2, zz_shl, zz_bt0, zz_bt1, pk_div, Nat.zero_add, Nat.add_zero, if_true, if_false, reduceIte, Nat.mul_zero, zz_or0, zz_inT, zz_inF, h25, h1, r1]
