/-! PURE: ask, sure. -/
/-- of the rows below x that are so: how many answer (i / 4, i % 4); how many; what stands in all -/
def tT (X : Nat → Nat → Nat) (N : Nat) : Nat → Nat → Nat
  | 0, _ => 0
  | x + 1, i => tT X N x i + (if okb X N x = true ∧ i % 4 = cn (i / 4) N x then 1 else 0)
def tF (X : Nat → Nat → Nat) (N : Nat) : Nat → Nat
  | 0 => 0
  | x + 1 => tF X N x + (if okb X N x = true then 1 else 0)
def rb : Nat → Nat → Int32 → Int32
  | 0, _, b => b
  | n + 1, x, b => rb n (x / 21) (b ||| nI (2 ^ (x % 21)))
def tB (X : Nat → Nat → Nat) (N : Nat) : Nat → Int32
  | 0 => nI 2097151
  | x + 1 => if okb X N x = true then tB X N x &&& rb N x (nI 0) else tB X N x
theorem tF_le (X : Nat → Nat → Nat) (N : Nat) : ∀ x, tF X N x ≤ x
  | 0 => Nat.le_refl _
  | x + 1 => by
    have := tF_le X N x
    unfold tF
    split <;> omega
theorem tT_le (X : Nat → Nat → Nat) (N i : Nat) : ∀ x, tT X N x i ≤ x
  | 0 => Nat.le_refl _
  | x + 1 => by
    have := tT_le X N i x
    unfold tT
    split <;> omega
theorem tT_s (X : Nat → Nat → Nat) (N x i : Nat) : tT X N (x + 1) i = tT X N x i + (if okb X N x = true ∧ i % 4 = cn (i / 4) N x then 1 else 0) := rfl
theorem tF_s (X : Nat → Nat → Nat) (N x : Nat) : tF X N (x + 1) = tF X N x + (if okb X N x = true then 1 else 0) := rfl
theorem tB_s (X : Nat → Nat → Nat) (N x : Nat) : tB X N (x + 1) = if okb X N x = true then tB X N x &&& rb N x (nI 0) else tB X N x := rfl
theorem t_skip {X : Nat → Nat → Nat} {N : Nat} : ∀ (m x : Nat), (∀ y, x ≤ y → y < x + m → okb X N y = false) → (∀ i, tT X N (x + m) i = tT X N x i) ∧ tF X N (x + m) = tF X N x ∧ tB X N (x + m) = tB X N x
  | 0, x, _ => ⟨fun _ => rfl, rfl, rfl⟩
  | m + 1, x, h => by
    obtain ⟨h1, h2, h3⟩ := t_skip m x (fun y g1 g2 => h y g1 (by omega))
    have e := h (x + m) (by omega) (by omega)
    rw [← Nat.add_assoc]
    refine ⟨fun i => ?_, ?_, ?_⟩
    · rw [tT_s, e, if_neg (fun z => by cases z.1), h1, Nat.add_zero]
    · rw [tF_s, e, if_neg (by decide), h2, Nat.add_zero]
    · rw [tB_s, e, if_neg (by decide), h3]
/-- one row counted by the class -/
theorem cR_le (r : Nat → Nat) (k : Nat) : ∀ i, cR r k i ≤ i
  | 0 => Nat.le_refl _
  | i + 1 => by
    have := cR_le r k i
    unfold cR
    split <;> omega
theorem cR_is {r : Nat → Nat} {k m : Nat} (h1 : ∀ j, j < m → r j ≤ k) : ∀ N, m ≤ N → (∀ j, m ≤ j → j < N → k < r j) → cR r k N = m
  | 0, h, _ => by unfold cR; omega
  | N + 1, h, h2 => by
    unfold cR
    by_cases c : m = N + 1
    · have : cR r k N = N := cR_is (m := N) (fun j hj => h1 j (by omega)) N (Nat.le_refl _) (fun j g1 g2 => by omega)
      rw [this, if_pos (h1 N (by omega)), c]
    · rw [cR_is h1 N (by omega) (fun j g1 g2 => h2 j g1 (by omega)), if_neg (by have := h2 N (by omega) (by omega); omega), Nat.add_zero]
theorem srt_le {N : Nat} {r : Nat → Nat} (h : SRT N r) (hN : N ≤ 3) : ∀ i j, i ≤ j → j < N → r i ≤ r j := by
  intro i j h1 h2
  obtain ⟨_, a, b⟩ := h
  rcases (by omega : i = j ∨ (i = 0 ∧ j = 1) ∨ (i = 0 ∧ j = 2) ∨ (i = 1 ∧ j = 2)) with rfl | ⟨rfl, rfl⟩ | ⟨rfl, rfl⟩ | ⟨rfl, rfl⟩
  · exact Nat.le_refl _
  · exact a (by omega)
  · exact Nat.le_trans (a (by omega)) (b (by omega))
  · exact b (by omega)
theorem pc_tr10 (n d : Nat) {I : am_I} (L : am_L) {r : Nat → Nat} (hw : RW I r) {N k : Nat} (hN : N ≤ 3) (hs : SRT N r) (hk : k ≤ 20) (k4 : Int32 → Int32 → Int32 → am_I → am_L → Option (am_I × am_L)) : ∀ (j m F : Nat), m + j = N → j < F → (∀ t, t < m → r t ≤ k) → fX4_tallyRow_b10 n d k4 F (nI N) (nI m) (nI k) I L = fX4_tallyRow_b36 n d k4 (nI N) (nI (cR r k N)) (nI k) I L
  | _, _, 0, _, f, _ => by omega
  | 0, m, F + 1, e, f, h => by
    have e1 : cR r k N = m := cR_is h N (by omega) (fun t g1 g2 => by omega)
    rw [e1]
    simp (disch := omega) only [fX4_tallyRow_b10, fX4_tallyRow_b10w, zz_lt, li_0, li_1, li_2, li_3, li_4, li_5, li_6, li_7, li_8, li_9, li_10, li_11, li_12, li_15, li_16, li_20, li_21, li_24, li_25, li_26, li_32, li_33, li_38, li_40, li_41, li_42, li_43, li_45, li_47, li_48, li_57, li_58, li_59, li_60, li_61, li_62, li_63, li_74, li_75, li_84, li_91, li_93, li_98, li_100, li_103, li_105, li_107, li_109, li_110, li_111, li_112, li_115, li_118, li_119, li_120, li_121, li_124, li_140, li_180, li_206, li_240, li_255, li_420, li_520, li_999, li_1000, li_1771, li_8240, li_9999, li_88200, li_1000000, li_2097151, li_31, nI_add, pk_mul, zz_sub, zz_an, nI_clamp, zz_leT, zz_leF, zz_ltT, zz_ltF, zz_eqF, zz_eqT, zz_m1, zz_m2, zz_m3, zz_m4, zz_m5, zz_m6, zz_ck, zz_bl, zz_b3, zz_b2, zz_shl, zz_bt0, zz_bt1, pk_div, Nat.zero_add, Nat.add_zero, if_true, if_false, reduceIte, Nat.mul_zero, zz_or0, zz_inT, zz_inF]
  | j + 1, m, F + 1, e, f, h => by
    obtain ⟨h1, h2⟩ := hw m (by omega)
    by_cases c : r m ≤ k
    · have ih := pc_tr10 n d L hw hN hs hk k4 j (m + 1) F (by omega) (by omega) (fun t ht => by
        by_cases c2 : t = m
        · rw [c2]; exact c
        · exact h t (by omega))
      rw [← ih]
      simp (disch := omega) only [fX4_tallyRow_b10, fX4_tallyRow_b10w, zz_lt, li_0, li_1, li_2, li_3, li_4, li_5, li_6, li_7, li_8, li_9, li_10, li_11, li_12, li_15, li_16, li_20, li_21, li_24, li_25, li_26, li_32, li_33, li_38, li_40, li_41, li_42, li_43, li_45, li_47, li_48, li_57, li_58, li_59, li_60, li_61, li_62, li_63, li_74, li_75, li_84, li_91, li_93, li_98, li_100, li_103, li_105, li_107, li_109, li_110, li_111, li_112, li_115, li_118, li_119, li_120, li_121, li_124, li_140, li_180, li_206, li_240, li_255, li_420, li_520, li_999, li_1000, li_1771, li_8240, li_9999, li_88200, li_1000000, li_2097151, li_31, nI_add, pk_mul, zz_sub, zz_an, nI_clamp, zz_leT, zz_leF, zz_ltT, zz_ltF, zz_eqF, zz_eqT, zz_m1, zz_m2, zz_m3, zz_m4, zz_m5, zz_m6, zz_ck, zz_bl, zz_b3, zz_b2, zz_shl, zz_bt0, zz_bt1, pk_div, Nat.zero_add, Nat.add_zero, if_true, if_false, reduceIte, Nat.mul_zero, zz_or0, zz_inT, zz_inF, h1]
    · have e1 : cR r k N = m := cR_is h N (by omega) (fun t g1 g2 => by have := srt_le hs hN m t g1 g2; omega)
      rw [e1]
      simp (disch := omega) only [fX4_tallyRow_b10, fX4_tallyRow_b10w, zz_lt, li_0, li_1, li_2, li_3, li_4, li_5, li_6, li_7, li_8, li_9, li_10, li_11, li_12, li_15, li_16, li_20, li_21, li_24, li_25, li_26, li_32, li_33, li_38, li_40, li_41, li_42, li_43, li_45, li_47, li_48, li_57, li_58, li_59, li_60, li_61, li_62, li_63, li_74, li_75, li_84, li_91, li_93, li_98, li_100, li_103, li_105, li_107, li_109, li_110, li_111, li_112, li_115, li_118, li_119, li_120, li_121, li_124, li_140, li_180, li_206, li_240, li_255, li_420, li_520, li_999, li_1000, li_1771, li_8240, li_9999, li_88200, li_1000000, li_2097151, li_31, nI_add, pk_mul, zz_sub, zz_an, nI_clamp, zz_leT, zz_leF, zz_ltT, zz_ltF, zz_eqF, zz_eqT, zz_m1, zz_m2, zz_m3, zz_m4, zz_m5, zz_m6, zz_ck, zz_bl, zz_b3, zz_b2, zz_shl, zz_bt0, zz_bt1, pk_div, Nat.zero_add, Nat.add_zero, if_true, if_false, reduceIte, Nat.mul_zero, zz_or0, zz_inT, zz_inF, h1]
def s64 (k j : Nat) : Bool := match k with | 64 => true | _ => false
theorem pc_trL (n d : Nat) (hn : 8 < n) (L : am_L) {r : Nat → Nat} {N : Nat} (hN : N ≤ 3) (hs : SRT N r) (T : Nat → Nat) : ∀ (j k m F : Nat) (I : am_I), k + j = 21 → j < F → m ≤ N → (∀ t, t < m → r t ≤ k) → RW I r → (∀ i, i < 4 * k → I 64 i = nI (T i + (if i % 4 = cR r (i / 4) N then 1 else 0))) → (∀ i, 4 * k ≤ i → i < 84 → I 64 i = nI (T i)) → ∃ I', fX4_tallyRow_b4 n d F (nI N) (nI m) (nI k) I L = some (I', L) ∧ (∀ i, i < 84 → I' 64 i = nI (T i + (if i % 4 = cR r (i / 4) N then 1 else 0))) ∧ am_ag s64 I I'
  | _, _, _, 0, _, _, f, _, _, _, _, _ => by omega
  | 0, k, m, F + 1, I, e, f, hm, hr, hw, h1, h2 => by
    exact ⟨I, by simp (disch := omega) only [fX4_tallyRow_b4, fX4_tallyRow_b4w, zz_lt, li_0, li_1, li_2, li_3, li_4, li_5, li_6, li_7, li_8, li_9, li_10, li_11, li_12, li_15, li_16, li_20, li_21, li_24, li_25, li_26, li_32, li_33, li_38, li_40, li_41, li_42, li_43, li_45, li_47, li_48, li_57, li_58, li_59, li_60, li_61, li_62, li_63, li_74, li_75, li_84, li_91, li_93, li_98, li_100, li_103, li_105, li_107, li_109, li_110, li_111, li_112, li_115, li_118, li_119, li_120, li_121, li_124, li_140, li_180, li_206, li_240, li_255, li_420, li_520, li_999, li_1000, li_1771, li_8240, li_9999, li_88200, li_1000000, li_2097151, li_31, nI_add, pk_mul, zz_sub, zz_an, nI_clamp, zz_leT, zz_leF, zz_ltT, zz_ltF, zz_eqF, zz_eqT, zz_m1, zz_m2, zz_m3, zz_m4, zz_m5, zz_m6, zz_ck, zz_bl, zz_b3, zz_b2, zz_shl, zz_bt0, zz_bt1, pk_div, Nat.zero_add, Nat.add_zero, if_true, if_false, reduceIte, Nat.mul_zero, zz_or0, zz_inT, zz_inF], fun i hi => h1 i (by omega), ag_rf⟩
  | j + 1, k, m, F + 1, I, e, f, hm, hr, hw, h1, h2 => by
    have cl := cR_le r k N
    have t10 := pc_tr10 n d L hw hN hs (k := k) (by omega) (fX4_tallyRow_b4 n d F) (N - m) m n (by omega) (by omega) hr
    have hv := h2 (4 * k + cR r k N) (by omega) (by omega)
    have ew : am_ag s64 I (am_up I 64 (k * 4 + cR r k N) (nI (T (4 * k + cR r k N) + 1))) := ag_up ag_rf rfl
    have mono : ∀ t, t < cR r k N → r t ≤ k + 1 := fun t ht => by
      refine Nat.le_succ_of_le (Nat.le_of_not_lt (fun z => ?_))
      have : ∀ i, i ≤ N → cR r k i ≤ t ∨ i ≤ t := fun i => by
        induction i with
        | zero => intro _; right; omega
        | succ i ih =>
          intro hi
          by_cases c : i < t
          · right; omega
          · left
            have q : ¬ r i ≤ k := by have := srt_le hs hN t i (by omega) (by omega); omega
            unfold cR
            rw [if_neg q]
            rcases ih (by omega) with g | g
            · omega
            · have := cR_le r k i; omega
      rcases this N (Nat.le_refl _) with g | g
      · omega
      · omega
    obtain ⟨I', w1, w2, w3⟩ := pc_trL n d hn L hN hs T j (k + 1) (cR r k N) F (am_up I 64 (k * 4 + cR r k N) (nI (T (4 * k + cR r k N) + 1))) (by omega) (by omega) cl mono (fun i hi => by rw [am_up_ne (by omega)]; exact hw i hi) (fun i hi => by
      by_cases c : i = k * 4 + cR r k N
      · rw [up_s c, if_pos (by rw [c, show (k * 4 + cR r k N) % 4 = cR r k N by omega, show (k * 4 + cR r k N) / 4 = k by omega]), c, show k * 4 + cR r k N = 4 * k + cR r k N by omega]
      · rw [up_n c]
        by_cases c2 : i < 4 * k
        · exact h1 i c2
        · have ek : i / 4 = k := by omega
          rw [h2 i (by omega) (by omega), ek, if_neg (by omega), Nat.add_zero]) (fun i hi hi2 => by rw [up_n (by omega)]; exact h2 i (by omega) hi2)
    refine ⟨I', ?_, w2, ag_tr ew w3⟩
    rw [← w1]
    have hv' : I 64 (k * 4 + cR r k N) = nI (T (4 * k + cR r k N)) := by rw [show k * 4 + cR r k N = 4 * k + cR r k N by omega]; exact hv
    have st : fX4_tallyRow_b4 n d (F + 1) (nI N) (nI m) (nI k) I L = fX4_tallyRow_b10 n d (fX4_tallyRow_b4 n d F) n (nI N) (nI m) (nI k) I L := by
      simp (disch := omega) only [fX4_tallyRow_b4, fX4_tallyRow_b4w, zz_lt, li_0, li_1, li_2, li_3, li_4, li_5, li_6, li_7, li_8, li_9, li_10, li_11, li_12, li_15, li_16, li_20, li_21, li_24, li_25, li_26, li_32, li_33, li_38, li_40, li_41, li_42, li_43, li_45, li_47, li_48, li_57, li_58, li_59, li_60, li_61, li_62, li_63, li_74, li_75, li_84, li_91, li_93, li_98, li_100, li_103, li_105, li_107, li_109, li_110, li_111, li_112, li_115, li_118, li_119, li_120, li_121, li_124, li_140, li_180, li_206, li_240, li_255, li_420, li_520, li_999, li_1000, li_1771, li_8240, li_9999, li_88200, li_1000000, li_2097151, li_31, nI_add, pk_mul, zz_sub, zz_an, nI_clamp, zz_leT, zz_leF, zz_ltT, zz_ltF, zz_eqF, zz_eqT, zz_m1, zz_m2, zz_m3, zz_m4, zz_m5, zz_m6, zz_ck, zz_bl, zz_b3, zz_b2, zz_shl, zz_bt0, zz_bt1, pk_div, Nat.zero_add, Nat.add_zero, if_true, if_false, reduceIte, Nat.mul_zero, zz_or0, zz_inT, zz_inF]
    rw [st, t10]
    simp (disch := omega) only [fX4_tallyRow_b36, zz_lt, li_0, li_1, li_2, li_3, li_4, li_5, li_6, li_7, li_8, li_9, li_10, li_11, li_12, li_15, li_16, li_20, li_21, li_24, li_25, li_26, li_32, li_33, li_38, li_40, li_41, li_42, li_43, li_45, li_47, li_48, li_57, li_58, li_59, li_60, li_61, li_62, li_63, li_74, li_75, li_84, li_91, li_93, li_98, li_100, li_103, li_105, li_107, li_109, li_110, li_111, li_112, li_115, li_118, li_119, li_120, li_121, li_124, li_140, li_180, li_206, li_240, li_255, li_420, li_520, li_999, li_1000, li_1771, li_8240, li_9999, li_88200, li_1000000, li_2097151, li_31, nI_add, pk_mul, zz_sub, zz_an, nI_clamp, zz_leT, zz_leF, zz_ltT, zz_ltF, zz_eqF, zz_eqT, zz_m1, zz_m2, zz_m3, zz_m4, zz_m5, zz_m6, zz_ck, zz_bl, zz_b3, zz_b2, zz_shl, zz_bt0, zz_bt1, pk_div, Nat.zero_add, Nat.add_zero, if_true, if_false, reduceIte, Nat.mul_zero, zz_or0, zz_inT, zz_inF, hv']
theorem pc_tr (n d : Nat) (hn : 100 < n) (L : am_L) {r : Nat → Nat} {N : Nat} (hN : N ≤ 3) (hs : SRT N r) (T : Nat → Nat) {I : am_I} (hw : RW I r) (h : ∀ i, i < 84 → I 64 i = nI (T i)) : ∃ I', fX4_tallyRow n d (nI N) I L = some (I', L) ∧ (∀ i, i < 84 → I' 64 i = nI (T i + (if i % 4 = cR r (i / 4) N then 1 else 0))) ∧ am_ag s64 I I' :=
  pc_trL n d (by omega) L hN hs T 21 0 0 n I (by omega) (by omega) (by omega) (fun t ht => by omega) hw (fun i hi => by omega) (fun i _ hi => h i hi)
def rC (r : Nat → Nat) : Nat → Int32
  | 0 => nI 0
  | i + 1 => rC r i ||| nI (2 ^ r i)
theorem pc_rbL (n d : Nat) {I : am_I} (L : am_L) {r : Nat → Nat} (hw : RW I r) {N : Nat} (hN : N ≤ 3) : ∀ (j i F : Nat), i + j = N → j < F → fX4_rowBits_b4 n d F (nI N) (rC r i) (nI i) I L = some (rC r N, I, L)
  | _, _, 0, _, f => by omega
  | 0, i, F + 1, e, f => by
    have e1 : i = N := by omega
    subst e1
    simp (disch := omega) only [fX4_rowBits_b4, fX4_rowBits_b4w, zz_lt, li_0, li_1, li_2, li_3, li_4, li_5, li_6, li_7, li_8, li_9, li_10, li_11, li_12, li_15, li_16, li_20, li_21, li_24, li_25, li_26, li_32, li_33, li_38, li_40, li_41, li_42, li_43, li_45, li_47, li_48, li_57, li_58, li_59, li_60, li_61, li_62, li_63, li_74, li_75, li_84, li_91, li_93, li_98, li_100, li_103, li_105, li_107, li_109, li_110, li_111, li_112, li_115, li_118, li_119, li_120, li_121, li_124, li_140, li_180, li_206, li_240, li_255, li_420, li_520, li_999, li_1000, li_1771, li_8240, li_9999, li_88200, li_1000000, li_2097151, li_31, nI_add, pk_mul, zz_sub, zz_an, nI_clamp, zz_leT, zz_leF, zz_ltT, zz_ltF, zz_eqF, zz_eqT, zz_m1, zz_m2, zz_m3, zz_m4, zz_m5, zz_m6, zz_ck, zz_bl, zz_b3, zz_b2, zz_shl, zz_bt0, zz_bt1, pk_div, Nat.zero_add, Nat.add_zero, if_true, if_false, reduceIte, Nat.mul_zero, zz_or0, zz_inT, zz_inF]
  | j + 1, i, F + 1, e, f => by
    have ih := pc_rbL n d L hw hN j (i + 1) F (by omega) (by omega)
    obtain ⟨h1, h2⟩ := hw i (by omega)
    simp only [rC] at ih
    simp (disch := omega) only [fX4_rowBits_b4, fX4_rowBits_b4w, zz_lt, li_0, li_1, li_2, li_3, li_4, li_5, li_6, li_7, li_8, li_9, li_10, li_11, li_12, li_15, li_16, li_20, li_21, li_24, li_25, li_26, li_32, li_33, li_38, li_40, li_41, li_42, li_43, li_45, li_47, li_48, li_57, li_58, li_59, li_60, li_61, li_62, li_63, li_74, li_75, li_84, li_91, li_93, li_98, li_100, li_103, li_105, li_107, li_109, li_110, li_111, li_112, li_115, li_118, li_119, li_120, li_121, li_124, li_140, li_180, li_206, li_240, li_255, li_420, li_520, li_999, li_1000, li_1771, li_8240, li_9999, li_88200, li_1000000, li_2097151, li_31, nI_add, pk_mul, zz_sub, zz_an, nI_clamp, zz_leT, zz_leF, zz_ltT, zz_ltF, zz_eqF, zz_eqT, zz_m1, zz_m2, zz_m3, zz_m4, zz_m5, zz_m6, zz_ck, zz_bl, zz_b3, zz_b2, zz_shl, zz_bt0, zz_bt1, pk_div, Nat.zero_add, Nat.add_zero, if_true, if_false, reduceIte, Nat.mul_zero, zz_or0, zz_inT, zz_inF, h1]
    exact ih
theorem rC_rb {N P : Nat} {r : Nat → Nat} (hN : (N = 1 ∧ P = 21) ∨ (N = 2 ∧ P = 441) ∨ (N = 3 ∧ P = 9261)) (h : ∀ i, i < 3 → r i ≤ 20) : rC r N = rb N (num r N) (nI 0) := by
  have a0 := h 0 (by omega)
  have a1 := h 1 (by omega)
  have a2 := h 2 (by omega)
  have e1 : num r 1 = r 0 := by simp [num]
  have e2 : num r 2 = r 0 * 21 + r 1 := by simp [num]
  have e3 : num r 3 = (r 0 * 21 + r 1) * 21 + r 2 := by simp [num]
  rcases hN with ⟨rfl, _⟩ | ⟨rfl, _⟩ | ⟨rfl, _⟩
  · rw [e1]
    simp only [rC, rb]
    rw [show r 0 % 21 = r 0 by omega]
  · rw [e2]
    simp only [rC, rb]
    rw [show (r 0 * 21 + r 1) % 21 = r 1 by omega, show (r 0 * 21 + r 1) / 21 % 21 = r 0 by omega]
    apply b_ext
    intro i hi
    simp only [b_or]
    cases bt (nI 0) i <;> cases bt (nI (2 ^ r 0)) i <;> cases bt (nI (2 ^ r 1)) i <;> rfl
  · rw [e3]
    simp only [rC, rb]
    rw [show ((r 0 * 21 + r 1) * 21 + r 2) % 21 = r 2 by omega, show ((r 0 * 21 + r 1) * 21 + r 2) / 21 % 21 = r 1 by omega, show ((r 0 * 21 + r 1) * 21 + r 2) / 21 / 21 % 21 = r 0 by omega]
    apply b_ext
    intro i hi
    simp only [b_or]
    cases bt (nI 0) i <;> cases bt (nI (2 ^ r 0)) i <;> cases bt (nI (2 ^ r 1)) i <;> cases bt (nI (2 ^ r 2)) i <;> rfl
def sTa (k j : Nat) : Bool := match k with | 63 => true | 64 => true | 60 => decide (j = 4) | _ => false
theorem ag_63T {I I' : am_I} (a : am_ag s63 I I') : am_ag sTa I I' := ag_wk a (fun k j h => by
  unfold s63
  split
  · exact absurd h (by simp [sTa])
  · rfl)
theorem ag_64T {I I' : am_I} (a : am_ag s64 I I') : am_ag sTa I I' := ag_wk a (fun k j h => by
  unfold s64
  split
  · exact absurd h (by simp [sTa])
  · rfl)
theorem ag_Ta {I I' : am_I} (a : am_ag sTa I I') : am_ag scrC I I' := ag_wk a (fun k j h => by
  unfold sTa
  split
  · exact absurd h (by simp [scrC])
  · exact absurd h (by simp [scrC])
  · have : j ≠ 4 := by rintro rfl; simp [scrC] at h
    simp [this]
  · rfl)
theorem CX_Ta {I I' : am_I} {X : Nat → Nat → Nat} (h : CX I X) (a : am_ag sTa I I') : CX I' X := by
  unfold CX at *
  rw [a 60 5 rfl, funext (fun j => a 61 j rfl), funext (fun j => a 62 j rfl)]
  exact h
theorem pc_tal {X : Nat → Nat → Nat} (hX : GX X) {N P : Nat} (hN : (N = 1 ∧ P = 21) ∨ (N = 2 ∧ P = 441) ∨ (N = 3 ∧ P = 9261)) (L : am_L) : ∀ (R F : Nat) (r : Nat → Nat) (a4 : Nat) (I : am_I), rem N r = R → SRT N r → R < F → a4 + R ≤ 1771 → RW I r → CX I X → (∀ i, i < 84 → I 64 i = nI (tT X N (num r N) i)) → I 60 4 = tB X N (num r N) → ∃ I', fX4_tally_b38 am_N 1900 F (nI N) (nI (tF X N (num r N))) (nI a4) I L = some (nI (tF X N P), I', L) ∧ (∀ i, i < 84 → I' 64 i = nI (tT X N P i)) ∧ I' 60 4 = tB X N P ∧ am_ag sTa I I'
  | 0, _, r, _, _, hr, hs, _, _, _, _, _, _ => by have := rem_pos hs; omega
  | _, 0, _, _, _, _, _, f, _, _, _, _, _ => by omega
  | R + 1, F + 1, r, a4, I, hr, hs, f, ha, hw, hc, hT, hB => by
    have hP := (so_num hN hs).2
    have n3 : N ≤ 3 := by omega
    have ft := pc_ft hX hc am_N 1900 am_N1 L hw (N := N) n3
    -- behind this row, counted
    have nxt : ∀ J, RW J r → CX J X → (∀ i, i < 84 → J 64 i = nI (tT X N (num r N + 1) i)) → J 60 4 = tB X N (num r N + 1) → ∃ I', fX4_tally_b75 am_N 1900 (fX4_tally_b38 am_N 1900 F) (nI N) (nI (tF X N (num r N + 1))) (nI a4) J L = some (nI (tF X N P), I', L) ∧ (∀ i, i < 84 → I' 64 i = nI (tT X N P i)) ∧ I' 60 4 = tB X N P ∧ am_ag sTa J I' := fun J jw jc jT jB => by
      rcases pc_nx am_N 1900 am_N8 L jw (N := N) (by omega) n3 with ⟨q1, q2⟩ | ⟨r', I', q1, q2, q3, q4⟩
      · have hE := nx_no hN hs q1
        rw [hE] at jT jB ⊢
        exact ⟨J, by simp (disch := omega) only [fX4_tally_b75, zz_lt, li_0, li_1, li_2, li_3, li_4, li_5, li_6, li_7, li_8, li_9, li_10, li_11, li_12, li_15, li_16, li_20, li_21, li_24, li_25, li_26, li_32, li_33, li_38, li_40, li_41, li_42, li_43, li_45, li_47, li_48, li_57, li_58, li_59, li_60, li_61, li_62, li_63, li_74, li_75, li_84, li_91, li_93, li_98, li_100, li_103, li_105, li_107, li_109, li_110, li_111, li_112, li_115, li_118, li_119, li_120, li_121, li_124, li_140, li_180, li_206, li_240, li_255, li_420, li_520, li_999, li_1000, li_1771, li_8240, li_9999, li_88200, li_1000000, li_2097151, li_31, nI_add, pk_mul, zz_sub, zz_an, nI_clamp, zz_leT, zz_leF, zz_ltT, zz_ltF, zz_eqF, zz_eqT, zz_m1, zz_m2, zz_m3, zz_m4, zz_m5, zz_m6, zz_ck, zz_bl, zz_b3, zz_b2, zz_shl, zz_bt0, zz_bt1, pk_div, Nat.zero_add, Nat.add_zero, if_true, if_false, reduceIte, Nat.mul_zero, zz_or0, zz_inT, zz_inF, q2], jT, jB, ag_rf⟩
      · obtain ⟨k1, k2, k3, k4, k5⟩ := nx_ok hN hs q1
        obtain ⟨m, hm⟩ : ∃ m, num r' N = num r N + 1 + m := ⟨num r' N - (num r N + 1), by omega⟩
        obtain ⟨s1, s2, s3⟩ := t_skip (X := X) (N := N) m (num r N + 1) (fun y g1 g2 => by unfold okb; rw [k4 y (by omega) (by omega), Bool.false_and])
        rw [← hm] at s1 s2 s3
        obtain ⟨I2, z1, z2, z3, z4⟩ := pc_tal hX hN L R F r' (a4 + 1) I' (by omega) k1 (by omega) (by omega) q3 (CX_63 jc q4) (fun i hi => by rw [q4 64 i rfl, s1]; exact jT i hi) (by rw [q4 60 4 rfl, s3]; exact jB)
        refine ⟨I2, ?_, z2, z3, ag_tr (ag_63T q4) z4⟩
        rw [← z1, s2]
        simp (disch := omega) only [fX4_tally_b75, zz_lt, li_0, li_1, li_2, li_3, li_4, li_5, li_6, li_7, li_8, li_9, li_10, li_11, li_12, li_15, li_16, li_20, li_21, li_24, li_25, li_26, li_32, li_33, li_38, li_40, li_41, li_42, li_43, li_45, li_47, li_48, li_57, li_58, li_59, li_60, li_61, li_62, li_63, li_74, li_75, li_84, li_91, li_93, li_98, li_100, li_103, li_105, li_107, li_109, li_110, li_111, li_112, li_115, li_118, li_119, li_120, li_121, li_124, li_140, li_180, li_206, li_240, li_255, li_420, li_520, li_999, li_1000, li_1771, li_8240, li_9999, li_88200, li_1000000, li_2097151, li_31, nI_add, pk_mul, zz_sub, zz_an, nI_clamp, zz_leT, zz_leF, zz_ltT, zz_ltF, zz_eqF, zz_eqT, zz_m1, zz_m2, zz_m3, zz_m4, zz_m5, zz_m6, zz_ck, zz_bl, zz_b3, zz_b2, zz_shl, zz_bt0, zz_bt1, pk_div, Nat.zero_add, Nat.add_zero, if_true, if_false, reduceIte, Nat.mul_zero, zz_or0, zz_inT, zz_inF, q2]
    have ob := okb_num (X := X) hN hs
    cases cf : ftl X N (num r N) (X 0 0) 0
    · rw [cf] at ob ft
      have eT : ∀ i, tT X N (num r N + 1) i = tT X N (num r N) i := fun i => by
        show tT X N (num r N) i + _ = _
        rw [ob, if_neg (fun z => by cases z.1), Nat.add_zero]
      have eF : tF X N (num r N + 1) = tF X N (num r N) := by
        show tF X N (num r N) + _ = _
        rw [ob, if_neg (by decide), Nat.add_zero]
      have eB : tB X N (num r N + 1) = tB X N (num r N) := by
        show (if okb X N (num r N) = true then _ else _) = _
        rw [ob, if_neg (by decide)]
      obtain ⟨I', z1, z2⟩ := nxt I hw hc (fun i hi => by rw [eT]; exact hT i hi) (by rw [eB]; exact hB)
      refine ⟨I', ?_, z2⟩
      rw [← z1, eF]
      simp (disch := omega) only [fX4_tally_b38, fX4_tally_b38w, zz_lt, li_0, li_1, li_2, li_3, li_4, li_5, li_6, li_7, li_8, li_9, li_10, li_11, li_12, li_15, li_16, li_20, li_21, li_24, li_25, li_26, li_32, li_33, li_38, li_40, li_41, li_42, li_43, li_45, li_47, li_48, li_57, li_58, li_59, li_60, li_61, li_62, li_63, li_74, li_75, li_84, li_91, li_93, li_98, li_100, li_103, li_105, li_107, li_109, li_110, li_111, li_112, li_115, li_118, li_119, li_120, li_121, li_124, li_140, li_180, li_206, li_240, li_255, li_420, li_520, li_999, li_1000, li_1771, li_8240, li_9999, li_88200, li_1000000, li_2097151, li_31, nI_add, pk_mul, zz_sub, zz_an, nI_clamp, zz_leT, zz_leF, zz_ltT, zz_ltF, zz_eqF, zz_eqT, zz_m1, zz_m2, zz_m3, zz_m4, zz_m5, zz_m6, zz_ck, zz_bl, zz_b3, zz_b2, zz_shl, zz_bt0, zz_bt1, pk_div, Nat.zero_add, Nat.add_zero, if_true, if_false, reduceIte, Nat.mul_zero, zz_or0, zz_inT, zz_inF, ft, Bool.toNat_false]
    · rw [cf] at ob ft
      have eF : tF X N (num r N + 1) = tF X N (num r N) + 1 := by
        show tF X N (num r N) + _ = _
        rw [ob, if_pos rfl]
      have eB : tB X N (num r N + 1) = tB X N (num r N) &&& rC r N := by
        show (if okb X N (num r N) = true then _ else _) = _
        rw [ob, if_pos rfl, rC_rb hN hs.1]
      have rbq : ∀ J, RW J r → fX4_rowBits am_N 1900 (nI N) J L = some (rC r N, J, L) := fun J jw => pc_rbL am_N 1900 L jw n3 N 0 am_N (by omega) (by unfold am_N; omega)
      have ag1 : am_ag sTa I (am_up I 60 4 (tB X N (num r N) &&& rC r N)) := ag_up ag_rf rfl
      have hw1 : RW (am_up I 60 4 (tB X N (num r N) &&& rC r N)) r := fun i hi => by rw [am_up_ne (by omega)]; exact hw i hi
      obtain ⟨J, y1, y2, y3⟩ := pc_tr am_N 1900 am_N1 L n3 hs (tT X N (num r N)) hw1 (fun i hi => by rw [am_up_ne (by omega)]; exact hT i hi)
      obtain ⟨I', z1, z2, z3, z4⟩ := nxt J (fun i hi => by rw [y3 63 i rfl]; exact hw1 i hi) (CX_Ta (CX_Ta hc ag1) (ag_64T y3)) (fun i hi => by
        rw [y2 i hi]
        show _ = nI (tT X N (num r N) i + _)
        rw [ob, cn_num (i / 4) N (fun t ht => hs.1 t (by omega))]
        simp only [true_and]) (by rw [y3 60 4 rfl, up_s rfl, eB])
      refine ⟨I', ?_, z2, z3, ag_tr (ag_tr ag1 (ag_64T y3)) z4⟩
      rw [← z1, eF]
      simp (disch := omega) only [fX4_tally_b38, fX4_tally_b38w, zz_lt, li_0, li_1, li_2, li_3, li_4, li_5, li_6, li_7, li_8, li_9, li_10, li_11, li_12, li_15, li_16, li_20, li_21, li_24, li_25, li_26, li_32, li_33, li_38, li_40, li_41, li_42, li_43, li_45, li_47, li_48, li_57, li_58, li_59, li_60, li_61, li_62, li_63, li_74, li_75, li_84, li_91, li_93, li_98, li_100, li_103, li_105, li_107, li_109, li_110, li_111, li_112, li_115, li_118, li_119, li_120, li_121, li_124, li_140, li_180, li_206, li_240, li_255, li_420, li_520, li_999, li_1000, li_1771, li_8240, li_9999, li_88200, li_1000000, li_2097151, li_31, nI_add, pk_mul, zz_sub, zz_an, nI_clamp, zz_leT, zz_leF, zz_ltT, zz_ltF, zz_eqF, zz_eqT, zz_m1, zz_m2, zz_m3, zz_m4, zz_m5, zz_m6, zz_ck, zz_bl, zz_b3, zz_b2, zz_shl, zz_bt0, zz_bt1, pk_div, Nat.zero_add, Nat.add_zero, if_true, if_false, reduceIte, Nat.mul_zero, zz_or0, zz_inT, zz_inF, ft, rbq I hw, hB, y1, Bool.toNat_true]
theorem pc_ta0 {X : Nat → Nat → Nat} (hX : GX X) {N P : Nat} (hN : (N = 1 ∧ P = 21) ∨ (N = 2 ∧ P = 441) ∨ (N = 3 ∧ P = 9261)) (L : am_L) : ∀ (j i F : Nat) (I : am_I), i + j = 84 → j < F → CX I X → (∀ t, t < i → I 64 t = nI 0) → ∃ I', fX4_tally_b2 am_N 1900 F (nI N) (nI i) I L = some (nI (tF X N P), I', L) ∧ (∀ i, i < 84 → I' 64 i = nI (tT X N P i)) ∧ I' 60 4 = tB X N P ∧ am_ag sTa I I'
  | _, _, 0, _, _, f, _, _ => by omega
  | 0, i, F + 1, I, e, f, hc, h => by
    obtain ⟨I1, w1, w2, w3⟩ := pc_beg am_N 1900 am_N8 L (am_up I 60 4 (nI 2097151))
    have ag1 : am_ag sTa I I1 := ag_tr (ag_up ag_rf rfl) (ag_63T w3)
    have r0 := rem0 hN
    obtain ⟨I2, z1, z2, z3, z4⟩ := pc_tal hX hN L (rem N (fun _ => 0)) am_N (fun _ => 0) 0 I1 rfl (srt0 N) (by unfold am_N; omega) (by omega) w2 (CX_Ta hc ag1) (fun t ht => by rw [w3 64 t rfl, am_up_ne (by omega), h t (by omega), num0]; rfl) (by rw [w3 60 4 rfl, up_s rfl, num0]; rfl)
    refine ⟨I2, ?_, z2, z3, ag_tr ag1 z4⟩
    rw [← z1, num0]
    simp (disch := omega) only [fX4_tally_b2, fX4_tally_b2w, zz_lt, li_0, li_1, li_2, li_3, li_4, li_5, li_6, li_7, li_8, li_9, li_10, li_11, li_12, li_15, li_16, li_20, li_21, li_24, li_25, li_26, li_32, li_33, li_38, li_40, li_41, li_42, li_43, li_45, li_47, li_48, li_57, li_58, li_59, li_60, li_61, li_62, li_63, li_74, li_75, li_84, li_91, li_93, li_98, li_100, li_103, li_105, li_107, li_109, li_110, li_111, li_112, li_115, li_118, li_119, li_120, li_121, li_124, li_140, li_180, li_206, li_240, li_255, li_420, li_520, li_999, li_1000, li_1771, li_8240, li_9999, li_88200, li_1000000, li_2097151, li_31, nI_add, pk_mul, zz_sub, zz_an, nI_clamp, zz_leT, zz_leF, zz_ltT, zz_ltF, zz_eqF, zz_eqT, zz_m1, zz_m2, zz_m3, zz_m4, zz_m5, zz_m6, zz_ck, zz_bl, zz_b3, zz_b2, zz_shl, zz_bt0, zz_bt1, pk_div, Nat.zero_add, Nat.add_zero, if_true, if_false, reduceIte, Nat.mul_zero, zz_or0, zz_inT, zz_inF, w1, tF]
  | j + 1, i, F + 1, I, e, f, hc, h => by
    obtain ⟨I', w1, w2, w3, w4⟩ := pc_ta0 hX hN L j (i + 1) F (am_up I 64 i (nI 0)) (by omega) (by omega) (CX_Ta hc (ag_up ag_rf rfl)) (fun t ht => by
      by_cases c : t = i
      · rw [up_s c]
      · rw [up_n c]; exact h t (by omega))
    refine ⟨I', ?_, w2, w3, ag_tr (ag_up ag_rf rfl) w4⟩
    rw [← w1]
    simp (disch := omega) only [fX4_tally_b2, fX4_tally_b2w, zz_lt, li_0, li_1, li_2, li_3, li_4, li_5, li_6, li_7, li_8, li_9, li_10, li_11, li_12, li_15, li_16, li_20, li_21, li_24, li_25, li_26, li_32, li_33, li_38, li_40, li_41, li_42, li_43, li_45, li_47, li_48, li_57, li_58, li_59, li_60, li_61, li_62, li_63, li_74, li_75, li_84, li_91, li_93, li_98, li_100, li_103, li_105, li_107, li_109, li_110, li_111, li_112, li_115, li_118, li_119, li_120, li_121, li_124, li_140, li_180, li_206, li_240, li_255, li_420, li_520, li_999, li_1000, li_1771, li_8240, li_9999, li_88200, li_1000000, li_2097151, li_31, nI_add, pk_mul, zz_sub, zz_an, nI_clamp, zz_leT, zz_leF, zz_ltT, zz_ltF, zz_eqF, zz_eqT, zz_m1, zz_m2, zz_m3, zz_m4, zz_m5, zz_m6, zz_ck, zz_bl, zz_b3, zz_b2, zz_shl, zz_bt0, zz_bt1, pk_div, Nat.zero_add, Nat.add_zero, if_true, if_false, reduceIte, Nat.mul_zero, zz_or0, zz_inT, zz_inF]
theorem pc_tally {X : Nat → Nat → Nat} (hX : GX X) {N P : Nat} (hN : (N = 1 ∧ P = 21) ∨ (N = 2 ∧ P = 441) ∨ (N = 3 ∧ P = 9261)) (L : am_L) {I : am_I} (hc : CX I X) : ∃ I', fX4_tally am_N 1900 (nI N) I L = some (nI (tF X N P), I', L) ∧ (∀ i, i < 84 → I' 64 i = nI (tT X N P i)) ∧ I' 60 4 = tB X N P ∧ am_ag sTa I I' := by
  unfold fX4_tally
  rw [zz_lt, li_0]
  exact pc_ta0 hX hN L 84 0 am_N I (by omega) (by unfold am_N; omega) hc (fun t ht => by omega)
/-- sure, by the model -/
theorem rb_hi : ∀ (n x : Nat) (b : Int32) (i : Nat), 21 ≤ i → i < 32 → bt b i = false → bt (rb n x b) i = false
  | 0, _, _, _, _, _, h => h
  | n + 1, x, b, i, h1, h2, h => by
    unfold rb
    refine rb_hi n (x / 21) _ i h1 h2 ?_
    rw [b_or, h, bt_pow (x % 21) (by omega) i h2, Bool.false_or]
    exact decide_eq_false (by omega)
theorem bt_21 : ∀ i, i < 32 → bt (nI 2097151) i = decide (i < 21) := by decide +kernel
theorem tB_hi (X : Nat → Nat → Nat) (N : Nat) : ∀ x i, 21 ≤ i → i < 32 → bt (tB X N x) i = false
  | 0, i, h1, h2 => by
    show bt (nI 2097151) i = false
    rw [bt_21 i h2]
    exact decide_eq_false (by omega)
  | x + 1, i, h1, h2 => by
    unfold tB
    split
    · rw [b_and, tB_hi X N x i h1 h2, Bool.false_and]
    · exact tB_hi X N x i h1 h2
theorem tB_0 {X : Nat → Nat → Nat} {N : Nat} : ∀ x, tF X N x = 0 → tB X N x = nI 2097151
  | 0, _ => rfl
  | x + 1, h => by
    unfold tF at h
    unfold tB
    cases c : okb X N x
    · rw [c, if_neg (by decide)] at h
      rw [if_neg (by decide)]
      exact tB_0 x (by omega)
    · rw [c, if_pos rfl] at h
      omega
def sv (X : Nat → Nat → Nat) (N x : Nat) : Int32 := if tF X N x = 0 then -nI 1 else tB X N x
theorem sv_s {X : Nat → Nat → Nat} {N x : Nat} (h : okb X N x = true) : (if sv X N x = -nI 1 then rb N x (nI 0) else sv X N x &&& rb N x (nI 0)) = sv X N (x + 1) := by
  have e1 : sv X N (x + 1) = tB X N x &&& rb N x (nI 0) := by
    unfold sv
    rw [if_neg (by unfold tF; rw [h, if_pos rfl]; omega)]
    show (if okb X N x = true then _ else _) = _
    rw [h, if_pos rfl]
  rw [e1]
  by_cases c : tF X N x = 0
  · have e2 : sv X N x = -nI 1 := by unfold sv; rw [if_pos c]
    rw [e2, if_pos rfl, tB_0 x c]
    apply b_ext
    intro i hi
    rw [b_and, bt_21 i hi]
    by_cases z : i < 21
    · simp [z]
    · rw [rb_hi N x (nI 0) i (by omega) hi (b_0 i)]; simp
  · have e2 : sv X N x = tB X N x := by unfold sv; rw [if_neg c]
    rw [e2, if_neg]
    intro z
    have := tB_hi X N x 31 (by omega) (by omega)
    rw [z, bt_m1 31 (by omega)] at this
    cases this
theorem pm_su41 (n d : Nat) (I : am_I) (L : am_L) {N x0 : Nat} (hN : N ≤ 3) (k15 : Int32 → Int32 → Int32 → am_I → am_L → Option (Int32 × am_I × am_L)) (a2 : Int32) : ∀ (i j F x : Nat) (b : Int32), j + i = N → i < F → x < 10000 → fX12_sure_b41 n d k15 F (nI N) a2 (nI x0) b (nI x) (nI j) I L = k15 (nI N) (if a2 = -nI 1 then rb i x b else a2 &&& rb i x b) (nI (x0 + 1)) I L
  | _, _, 0, _, _, _, f, _ => by omega
  | 0, j, F + 1, x, b, e, f, hx => by
    have e1 : j = N := by omega
    subst e1
    by_cases c : a2 = -nI 1 <;> simp (disch := omega) only [fX12_sure_b41, fX12_sure_b41w, fX12_sure_b86, fX12_sure_b87, zz_lt, li_0, li_1, li_2, li_3, li_4, li_5, li_6, li_7, li_8, li_9, li_10, li_11, li_12, li_15, li_16, li_20, li_21, li_24, li_25, li_26, li_32, li_33, li_38, li_40, li_41, li_42, li_43, li_45, li_47, li_48, li_57, li_58, li_59, li_60, li_61, li_62, li_63, li_74, li_75, li_84, li_91, li_93, li_98, li_100, li_103, li_105, li_107, li_109, li_110, li_111, li_112, li_115, li_118, li_119, li_120, li_121, li_124, li_140, li_180, li_206, li_240, li_255, li_420, li_520, li_999, li_1000, li_1771, li_8240, li_9999, li_88200, li_1000000, li_2097151, li_31, nI_add, pk_mul, zz_sub, zz_an, nI_clamp, zz_leT, zz_leF, zz_ltT, zz_ltF, zz_eqF, zz_eqT, zz_m1, zz_m2, zz_m3, zz_m4, zz_m5, zz_m6, zz_ck, zz_bl, zz_b3, zz_b2, zz_shl, zz_bt0, zz_bt1, pk_div, Nat.zero_add, Nat.add_zero, if_true, if_false, reduceIte, Nat.mul_zero, zz_or0, zz_inT, zz_inF, c, rb]
  | i + 1, j, F + 1, x, b, e, f, hx => by
    have ih := pm_su41 n d I L (x0 := x0) hN k15 a2 i (j + 1) F (x / 21) (b ||| nI (2 ^ (x % 21))) (by omega) (by omega) (by omega)
    have em : x - x / 21 * 21 = x % 21 := by omega
    simp only [rb]
    rw [← ih]
    simp (disch := omega) only [fX12_sure_b41, fX12_sure_b41w, zz_lt, li_0, li_1, li_2, li_3, li_4, li_5, li_6, li_7, li_8, li_9, li_10, li_11, li_12, li_15, li_16, li_20, li_21, li_24, li_25, li_26, li_32, li_33, li_38, li_40, li_41, li_42, li_43, li_45, li_47, li_48, li_57, li_58, li_59, li_60, li_61, li_62, li_63, li_74, li_75, li_84, li_91, li_93, li_98, li_100, li_103, li_105, li_107, li_109, li_110, li_111, li_112, li_115, li_118, li_119, li_120, li_121, li_124, li_140, li_180, li_206, li_240, li_255, li_420, li_520, li_999, li_1000, li_1771, li_8240, li_9999, li_88200, li_1000000, li_2097151, li_31, nI_add, pk_mul, zz_sub, zz_an, nI_clamp, zz_leT, zz_leF, zz_ltT, zz_ltF, zz_eqF, zz_eqT, zz_m1, zz_m2, zz_m3, zz_m4, zz_m5, zz_m6, zz_ck, zz_bl, zz_b3, zz_b2, zz_shl, zz_bt0, zz_bt1, pk_div, Nat.zero_add, Nat.add_zero, if_true, if_false, reduceIte, Nat.mul_zero, zz_or0, zz_inT, zz_inF, em]
theorem pm_su {X : Nat → Nat → Nat} (hX : GX X) {N P : Nat} (hN : (N = 1 ∧ P = 21) ∨ (N = 2 ∧ P = 441) ∨ (N = 3 ∧ P = 9261)) {I : am_I} (h : MX I X) (L : am_L) : ∀ (m x G : Nat), x + m = P → m < G → fX12_sure_b15 am_N 1900 G (nI N) (sv X N x) (nI x) I L = some (sv X N P, I, L)
  | _, _, 0, _, f => by omega
  | 0, x, G + 1, e, f => by
    have pw := pm_powP I L hN
    have e1 : x = P := by omega
    subst e1
    simp (disch := omega) only [fX12_sure_b15, fX12_sure_b15w, zz_lt, li_0, li_1, li_2, li_3, li_4, li_5, li_6, li_7, li_8, li_9, li_10, li_11, li_12, li_15, li_16, li_20, li_21, li_24, li_25, li_26, li_32, li_33, li_38, li_40, li_41, li_42, li_43, li_45, li_47, li_48, li_57, li_58, li_59, li_60, li_61, li_62, li_63, li_74, li_75, li_84, li_91, li_93, li_98, li_100, li_103, li_105, li_107, li_109, li_110, li_111, li_112, li_115, li_118, li_119, li_120, li_121, li_124, li_140, li_180, li_206, li_240, li_255, li_420, li_520, li_999, li_1000, li_1771, li_8240, li_9999, li_88200, li_1000000, li_2097151, li_31, nI_add, pk_mul, zz_sub, zz_an, nI_clamp, zz_leT, zz_leF, zz_ltT, zz_ltF, zz_eqF, zz_eqT, zz_m1, zz_m2, zz_m3, zz_m4, zz_m5, zz_m6, zz_ck, zz_bl, zz_b3, zz_b2, zz_shl, zz_bt0, zz_bt1, pk_div, Nat.zero_add, Nat.add_zero, if_true, if_false, reduceIte, Nat.mul_zero, zz_or0, zz_inT, zz_inF, pw]
  | m + 1, x, G + 1, e, f => by
    have pw := pm_powP I L hN
    have ob := pm_okb hX h am_N 1900 am_N1 L (N := N) (x := x) (by omega) (by omega)
    have ih := pm_su hX hN h L m (x + 1) G (by omega) (by omega)
    cases c : okb X N x
    · rw [c] at ob
      have e1 : sv X N (x + 1) = sv X N x := by
        unfold sv
        rw [tF_s, tB_s, c, if_neg (show ¬ (false = true) by decide), if_neg (show ¬ (false = true) by decide), Nat.add_zero]
      rw [e1] at ih
      rw [← ih]
      simp (disch := omega) only [fX12_sure_b15, fX12_sure_b15w, fX12_sure_b87, zz_lt, li_0, li_1, li_2, li_3, li_4, li_5, li_6, li_7, li_8, li_9, li_10, li_11, li_12, li_15, li_16, li_20, li_21, li_24, li_25, li_26, li_32, li_33, li_38, li_40, li_41, li_42, li_43, li_45, li_47, li_48, li_57, li_58, li_59, li_60, li_61, li_62, li_63, li_74, li_75, li_84, li_91, li_93, li_98, li_100, li_103, li_105, li_107, li_109, li_110, li_111, li_112, li_115, li_118, li_119, li_120, li_121, li_124, li_140, li_180, li_206, li_240, li_255, li_420, li_520, li_999, li_1000, li_1771, li_8240, li_9999, li_88200, li_1000000, li_2097151, li_31, nI_add, pk_mul, zz_sub, zz_an, nI_clamp, zz_leT, zz_leF, zz_ltT, zz_ltF, zz_eqF, zz_eqT, zz_m1, zz_m2, zz_m3, zz_m4, zz_m5, zz_m6, zz_ck, zz_bl, zz_b3, zz_b2, zz_shl, zz_bt0, zz_bt1, pk_div, Nat.zero_add, Nat.add_zero, if_true, if_false, reduceIte, Nat.mul_zero, zz_or0, zz_inT, zz_inF, pw, ob, Bool.toNat_false]
    · rw [c] at ob
      have s41 := pm_su41 am_N 1900 I L (N := N) (x0 := x) (by omega) (fX12_sure_b15 am_N 1900 G) (sv X N x) N 0 am_N x (nI 0) (by omega) (by unfold am_N; omega) (by omega)
      rw [sv_s c] at s41
      rw [← ih, ← s41]
      simp (disch := omega) only [fX12_sure_b15, fX12_sure_b15w, zz_lt, li_0, li_1, li_2, li_3, li_4, li_5, li_6, li_7, li_8, li_9, li_10, li_11, li_12, li_15, li_16, li_20, li_21, li_24, li_25, li_26, li_32, li_33, li_38, li_40, li_41, li_42, li_43, li_45, li_47, li_48, li_57, li_58, li_59, li_60, li_61, li_62, li_63, li_74, li_75, li_84, li_91, li_93, li_98, li_100, li_103, li_105, li_107, li_109, li_110, li_111, li_112, li_115, li_118, li_119, li_120, li_121, li_124, li_140, li_180, li_206, li_240, li_255, li_420, li_520, li_999, li_1000, li_1771, li_8240, li_9999, li_88200, li_1000000, li_2097151, li_31, nI_add, pk_mul, zz_sub, zz_an, nI_clamp, zz_leT, zz_leF, zz_ltT, zz_ltF, zz_eqF, zz_eqT, zz_m1, zz_m2, zz_m3, zz_m4, zz_m5, zz_m6, zz_ck, zz_bl, zz_b3, zz_b2, zz_shl, zz_bt0, zz_bt1, pk_div, Nat.zero_add, Nat.add_zero, if_true, if_false, reduceIte, Nat.mul_zero, zz_or0, zz_inT, zz_inF, pw, ob, Bool.toNat_true]
theorem op_sure {X : Nat → Nat → Nat} {IC IM : am_I} (hX : GX X) (hc : CX IC X) (hM : MX IM X) (LC LM : am_L) (e0 : Int32) : am_scr (fX11_sure am_N 1900 e0 IC LC) (fX12_sure am_N 1900 e0 IM LM) IC LC IM LM := by
  rcases size_of e0 with ⟨_, s1, s2⟩ | ⟨N, P, hN, rfl, s1, s2⟩
  · exact ⟨-nI 1, IC, IM, by simp (disch := omega) only [fX11_sure, zz_lt, li_0, li_1, li_2, li_3, li_4, li_5, li_6, li_7, li_8, li_9, li_10, li_11, li_12, li_15, li_16, li_20, li_21, li_24, li_25, li_26, li_32, li_33, li_38, li_40, li_41, li_42, li_43, li_45, li_47, li_48, li_57, li_58, li_59, li_60, li_61, li_62, li_63, li_74, li_75, li_84, li_91, li_93, li_98, li_100, li_103, li_105, li_107, li_109, li_110, li_111, li_112, li_115, li_118, li_119, li_120, li_121, li_124, li_140, li_180, li_206, li_240, li_255, li_420, li_520, li_999, li_1000, li_1771, li_8240, li_9999, li_88200, li_1000000, li_2097151, li_31, nI_add, pk_mul, zz_sub, zz_an, nI_clamp, zz_leT, zz_leF, zz_ltT, zz_ltF, zz_eqF, zz_eqT, zz_m1, zz_m2, zz_m3, zz_m4, zz_m5, zz_m6, zz_ck, zz_bl, zz_b3, zz_b2, zz_shl, zz_bt0, zz_bt1, pk_div, Nat.zero_add, Nat.add_zero, if_true, if_false, reduceIte, Nat.mul_zero, zz_or0, zz_inT, zz_inF, s1], by simp (disch := omega) only [fX12_sure, zz_lt, li_0, li_1, li_2, li_3, li_4, li_5, li_6, li_7, li_8, li_9, li_10, li_11, li_12, li_15, li_16, li_20, li_21, li_24, li_25, li_26, li_32, li_33, li_38, li_40, li_41, li_42, li_43, li_45, li_47, li_48, li_57, li_58, li_59, li_60, li_61, li_62, li_63, li_74, li_75, li_84, li_91, li_93, li_98, li_100, li_103, li_105, li_107, li_109, li_110, li_111, li_112, li_115, li_118, li_119, li_120, li_121, li_124, li_140, li_180, li_206, li_240, li_255, li_420, li_520, li_999, li_1000, li_1771, li_8240, li_9999, li_88200, li_1000000, li_2097151, li_31, nI_add, pk_mul, zz_sub, zz_an, nI_clamp, zz_leT, zz_leF, zz_ltT, zz_ltF, zz_eqF, zz_eqT, zz_m1, zz_m2, zz_m3, zz_m4, zz_m5, zz_m6, zz_ck, zz_bl, zz_b3, zz_b2, zz_shl, zz_bt0, zz_bt1, pk_div, Nat.zero_add, Nat.add_zero, if_true, if_false, reduceIte, Nat.mul_zero, zz_or0, zz_inT, zz_inF, s2], ag_rf, ag_rf⟩
  · obtain ⟨I', w1, w2, w3, w4⟩ := pc_tally hX hN LC hc
    have su := pm_su hX hN hM LM P 0 am_N (by omega) (by unfold am_N; omega)
    have sz : sv X N 0 = -nI 1 := rfl
    rw [sz] at su
    have tl := tF_le X N P
    refine ⟨sv X N P, I', IM, ?_, ?_, ag_Ta w4, ag_rf⟩
    · unfold sv
      by_cases c : tF X N P = 0 <;> simp (disch := omega) only [fX11_sure, zz_lt, li_0, li_1, li_2, li_3, li_4, li_5, li_6, li_7, li_8, li_9, li_10, li_11, li_12, li_15, li_16, li_20, li_21, li_24, li_25, li_26, li_32, li_33, li_38, li_40, li_41, li_42, li_43, li_45, li_47, li_48, li_57, li_58, li_59, li_60, li_61, li_62, li_63, li_74, li_75, li_84, li_91, li_93, li_98, li_100, li_103, li_105, li_107, li_109, li_110, li_111, li_112, li_115, li_118, li_119, li_120, li_121, li_124, li_140, li_180, li_206, li_240, li_255, li_420, li_520, li_999, li_1000, li_1771, li_8240, li_9999, li_88200, li_1000000, li_2097151, li_31, nI_add, pk_mul, zz_sub, zz_an, nI_clamp, zz_leT, zz_leF, zz_ltT, zz_ltF, zz_eqF, zz_eqT, zz_m1, zz_m2, zz_m3, zz_m4, zz_m5, zz_m6, zz_ck, zz_bl, zz_b3, zz_b2, zz_shl, zz_bt0, zz_bt1, pk_div, Nat.zero_add, Nat.add_zero, if_true, if_false, reduceIte, Nat.mul_zero, zz_or0, zz_inT, zz_inF, s1, w1, w3, c]
    · simp (disch := omega) only [fX12_sure, zz_lt, li_0, li_1, li_2, li_3, li_4, li_5, li_6, li_7, li_8, li_9, li_10, li_11, li_12, li_15, li_16, li_20, li_21, li_24, li_25, li_26, li_32, li_33, li_38, li_40, li_41, li_42, li_43, li_45, li_47, li_48, li_57, li_58, li_59, li_60, li_61, li_62, li_63, li_74, li_75, li_84, li_91, li_93, li_98, li_100, li_103, li_105, li_107, li_109, li_110, li_111, li_112, li_115, li_118, li_119, li_120, li_121, li_124, li_140, li_180, li_206, li_240, li_255, li_420, li_520, li_999, li_1000, li_1771, li_8240, li_9999, li_88200, li_1000000, li_2097151, li_31, nI_add, pk_mul, zz_sub, zz_an, nI_clamp, zz_leT, zz_leF, zz_ltT, zz_ltF, zz_eqF, zz_eqT, zz_m1, zz_m2, zz_m3, zz_m4, zz_m5, zz_m6, zz_ck, zz_bl, zz_b3, zz_b2, zz_shl, zz_bt0, zz_bt1, pk_div, Nat.zero_add, Nat.add_zero, if_true, if_false, reduceIte, Nat.mul_zero, zz_or0, zz_inT, zz_inF, s2, su]
