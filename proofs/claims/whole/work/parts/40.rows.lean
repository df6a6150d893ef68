/-! PURE: rows of steps; fit. -/
def so : Nat → Nat → Nat → Bool
  | 0, _, _ => true
  | n + 1, x, y => decide (x % 21 ≤ y) && so n (x / 21) (x % 21)
def cn (k : Nat) : Nat → Nat → Nat
  | 0, _ => 0
  | n + 1, x => (if x % 21 ≤ k then 1 else 0) + cn k n (x / 21)
theorem cn_le (k : Nat) : ∀ n x, cn k n x ≤ n
  | 0, _ => Nat.le_refl _
  | n + 1, x => by
    have := cn_le k n (x / 21)
    unfold cn
    split <;> omega
theorem cn_20 : ∀ n x, cn 20 n x = n
  | 0, _ => rfl
  | n + 1, x => by
    unfold cn
    rw [if_pos (by omega), cn_20 n, Nat.add_comm]
theorem pm_wiL (n d : Nat) (I : am_I) (L : am_L) {N k : Nat} (hN : N ≤ 3) (hk : k ≤ 20) : ∀ (i j F many x y : Nat), j + i = N → i < F → x < 10000 → y ≤ 20 → fX12_within_b12 n d F (nI N) (nI k) (nI many) (nI x) (nI y) (nI j) I L = some (if so i x y = true then nI (many + cn k i x) else -nI 1, I, L)
  | _, _, 0, _, _, _, _, f, _, _ => by omega
  | 0, j, F + 1, many, x, y, e, f, hx, hy => by
    have e1 : j = N := by omega
    subst e1
    simp (disch := omega) only [fX12_within_b12, fX12_within_b12w, zz_lt, li_0, li_1, li_2, li_3, li_4, li_5, li_6, li_7, li_8, li_9, li_10, li_11, li_12, li_15, li_16, li_20, li_21, li_24, li_25, li_26, li_32, li_33, li_38, li_40, li_41, li_42, li_43, li_45, li_47, li_48, li_57, li_58, li_59, li_60, li_61, li_62, li_63, li_74, li_75, li_84, li_91, li_93, li_98, li_100, li_103, li_105, li_107, li_109, li_110, li_111, li_112, li_115, li_118, li_119, li_120, li_121, li_124, li_140, li_180, li_206, li_240, li_255, li_420, li_520, li_999, li_1000, li_1771, li_8240, li_9999, li_88200, li_1000000, li_2097151, li_31, nI_add, pk_mul, zz_sub, zz_an, nI_clamp, zz_leT, zz_leF, zz_ltT, zz_ltF, zz_eqF, zz_eqT, zz_m1, zz_m2, zz_m3, zz_m4, zz_m5, zz_m6, zz_ck, zz_bl, zz_b3, zz_b2, zz_shl, zz_bt0, zz_bt1, pk_div, Nat.zero_add, Nat.add_zero, if_true, if_false, reduceIte, Nat.mul_zero, zz_or0, zz_inT, zz_inF, so, cn]
  | i + 1, j, F + 1, many, x, y, e, f, hx, hy => by
    have ih := fun m => pm_wiL n d I L hN hk i (j + 1) F m (x / 21) (x % 21) (by omega) (by omega) (by omega) (by omega)
    have em : x - x / 21 * 21 = x % 21 := by omega
    by_cases c1 : x % 21 ≤ y
    · by_cases c2 : x % 21 ≤ k
      · simp (disch := omega) only [fX12_within_b12, fX12_within_b12w, fX12_within_b50, zz_lt, li_0, li_1, li_2, li_3, li_4, li_5, li_6, li_7, li_8, li_9, li_10, li_11, li_12, li_15, li_16, li_20, li_21, li_24, li_25, li_26, li_32, li_33, li_38, li_40, li_41, li_42, li_43, li_45, li_47, li_48, li_57, li_58, li_59, li_60, li_61, li_62, li_63, li_74, li_75, li_84, li_91, li_93, li_98, li_100, li_103, li_105, li_107, li_109, li_110, li_111, li_112, li_115, li_118, li_119, li_120, li_121, li_124, li_140, li_180, li_206, li_240, li_255, li_420, li_520, li_999, li_1000, li_1771, li_8240, li_9999, li_88200, li_1000000, li_2097151, li_31, nI_add, pk_mul, zz_sub, zz_an, nI_clamp, zz_leT, zz_leF, zz_ltT, zz_ltF, zz_eqF, zz_eqT, zz_m1, zz_m2, zz_m3, zz_m4, zz_m5, zz_m6, zz_ck, zz_bl, zz_b3, zz_b2, zz_shl, zz_bt0, zz_bt1, pk_div, Nat.zero_add, Nat.add_zero, if_true, if_false, reduceIte, Nat.mul_zero, zz_or0, zz_inT, zz_inF, em, so, cn, c1, c2, ih, decide_true, Bool.true_and, Nat.add_assoc]
      · simp (disch := omega) only [fX12_within_b12, fX12_within_b12w, fX12_within_b50, zz_lt, li_0, li_1, li_2, li_3, li_4, li_5, li_6, li_7, li_8, li_9, li_10, li_11, li_12, li_15, li_16, li_20, li_21, li_24, li_25, li_26, li_32, li_33, li_38, li_40, li_41, li_42, li_43, li_45, li_47, li_48, li_57, li_58, li_59, li_60, li_61, li_62, li_63, li_74, li_75, li_84, li_91, li_93, li_98, li_100, li_103, li_105, li_107, li_109, li_110, li_111, li_112, li_115, li_118, li_119, li_120, li_121, li_124, li_140, li_180, li_206, li_240, li_255, li_420, li_520, li_999, li_1000, li_1771, li_8240, li_9999, li_88200, li_1000000, li_2097151, li_31, nI_add, pk_mul, zz_sub, zz_an, nI_clamp, zz_leT, zz_leF, zz_ltT, zz_ltF, zz_eqF, zz_eqT, zz_m1, zz_m2, zz_m3, zz_m4, zz_m5, zz_m6, zz_ck, zz_bl, zz_b3, zz_b2, zz_shl, zz_bt0, zz_bt1, pk_div, Nat.zero_add, Nat.add_zero, if_true, if_false, reduceIte, Nat.mul_zero, zz_or0, zz_inT, zz_inF, em, so, cn, c1, c2, ih, decide_true, Bool.true_and]
    · simp (disch := omega) only [fX12_within_b12, fX12_within_b12w, fX12_within_b50, zz_lt, li_0, li_1, li_2, li_3, li_4, li_5, li_6, li_7, li_8, li_9, li_10, li_11, li_12, li_15, li_16, li_20, li_21, li_24, li_25, li_26, li_32, li_33, li_38, li_40, li_41, li_42, li_43, li_45, li_47, li_48, li_57, li_58, li_59, li_60, li_61, li_62, li_63, li_74, li_75, li_84, li_91, li_93, li_98, li_100, li_103, li_105, li_107, li_109, li_110, li_111, li_112, li_115, li_118, li_119, li_120, li_121, li_124, li_140, li_180, li_206, li_240, li_255, li_420, li_520, li_999, li_1000, li_1771, li_8240, li_9999, li_88200, li_1000000, li_2097151, li_31, nI_add, pk_mul, zz_sub, zz_an, nI_clamp, zz_leT, zz_leF, zz_ltT, zz_ltF, zz_eqF, zz_eqT, zz_m1, zz_m2, zz_m3, zz_m4, zz_m5, zz_m6, zz_ck, zz_bl, zz_b3, zz_b2, zz_shl, zz_bt0, zz_bt1, pk_div, Nat.zero_add, Nat.add_zero, if_true, if_false, reduceIte, Nat.mul_zero, zz_or0, zz_inT, zz_inF, em, so, c1, decide_false, Bool.false_and, Bool.false_eq_true]
theorem pm_wi (n d : Nat) (hn : 8 < n) (I : am_I) (L : am_L) {N k x : Nat} (hN : N ≤ 3) (hk : k ≤ 20) (hx : x < 10000) : fX12_within n d (nI x) (nI N) (nI k) I L = some (if so N x 20 = true then nI (cn k N x) else -nI 1, I, L) := by
  have := pm_wiL n d I L hN hk N 0 n 0 x 20 (by omega) (by omega) hx (by omega)
  rw [Nat.zero_add] at this
  exact this
/-- does a row fit the letters from the i-th on -/
def ftl (X : Nat → Nat → Nat) (N x : Nat) : Nat → Nat → Bool
  | 0, _ => true
  | j + 1, i => decide (cn (X 1 i) N x = X 2 i) && ftl X N x j (i + 1)
def okb (X : Nat → Nat → Nat) (N x : Nat) : Bool := so N x 20 && ftl X N x (X 0 0) 0
theorem pm_soL {X : Nat → Nat → Nat} (hX : GX X) {I : am_I} (h : MX I X) (n d : Nat) (hn : 8 < n) (L : am_L) {N x : Nat} (hN : N ≤ 3) (hx : x < 10000) (hs : so N x 20 = true) : ∀ (j i F : Nat), i + j = X 0 0 → j + 1 < F → fX12_isSoBy_b20 n d F (nI x) (nI N) (nI 1) (nI i) I L = some (nI (ftl X N x j i).toNat, I, L)
  | _, _, 0, _, f => by omega
  | 0, i, F + 1, e, f => by
    obtain ⟨m1, m2, m3⟩ := h
    have b := hX.1
    have e1 : i = X 0 0 := by omega
    subst e1
    simp (disch := omega) only [fX12_isSoBy_b20, fX12_isSoBy_b20w, zz_lt, li_0, li_1, li_2, li_3, li_4, li_5, li_6, li_7, li_8, li_9, li_10, li_11, li_12, li_15, li_16, li_20, li_21, li_24, li_25, li_26, li_32, li_33, li_38, li_40, li_41, li_42, li_43, li_45, li_47, li_48, li_57, li_58, li_59, li_60, li_61, li_62, li_63, li_74, li_75, li_84, li_91, li_93, li_98, li_100, li_103, li_105, li_107, li_109, li_110, li_111, li_112, li_115, li_118, li_119, li_120, li_121, li_124, li_140, li_180, li_206, li_240, li_255, li_420, li_520, li_999, li_1000, li_1771, li_8240, li_9999, li_88200, li_1000000, li_2097151, li_31, nI_add, pk_mul, zz_sub, zz_an, nI_clamp, zz_leT, zz_leF, zz_ltT, zz_ltF, zz_eqF, zz_eqT, zz_m1, zz_m2, zz_m3, zz_m4, zz_m5, zz_m6, zz_ck, zz_bl, zz_b3, zz_b2, zz_shl, zz_bt0, zz_bt1, pk_div, Nat.zero_add, Nat.add_zero, if_true, if_false, reduceIte, Nat.mul_zero, zz_or0, zz_inT, zz_inF, m1, ftl, Bool.toNat_true]
  | j + 1, i, F + 1, e, f => by
    have ih := pm_soL hX h n d hn L hN hx hs j (i + 1) F (by omega) (by omega)
    obtain ⟨m1, m2, m3⟩ := h
    have b := hX.1
    have b2 := hX.2 i (by omega)
    have wi := pm_wi n d hn I L (k := X 1 i) hN b2.1 hx
    have cl := cn_le (X 1 i) N x
    rw [if_pos hs] at wi
    by_cases c : cn (X 1 i) N x = X 2 i
    · simp (disch := omega) only [fX12_isSoBy_b20, fX12_isSoBy_b20w, fX12_isSoBy_b60, zz_lt, li_0, li_1, li_2, li_3, li_4, li_5, li_6, li_7, li_8, li_9, li_10, li_11, li_12, li_15, li_16, li_20, li_21, li_24, li_25, li_26, li_32, li_33, li_38, li_40, li_41, li_42, li_43, li_45, li_47, li_48, li_57, li_58, li_59, li_60, li_61, li_62, li_63, li_74, li_75, li_84, li_91, li_93, li_98, li_100, li_103, li_105, li_107, li_109, li_110, li_111, li_112, li_115, li_118, li_119, li_120, li_121, li_124, li_140, li_180, li_206, li_240, li_255, li_420, li_520, li_999, li_1000, li_1771, li_8240, li_9999, li_88200, li_1000000, li_2097151, li_31, nI_add, pk_mul, zz_sub, zz_an, nI_clamp, zz_leT, zz_leF, zz_ltT, zz_ltF, zz_eqF, zz_eqT, zz_m1, zz_m2, zz_m3, zz_m4, zz_m5, zz_m6, zz_ck, zz_bl, zz_b3, zz_b2, zz_shl, zz_bt0, zz_bt1, pk_div, Nat.zero_add, Nat.add_zero, if_true, if_false, reduceIte, Nat.mul_zero, zz_or0, zz_inT, zz_inF, m1, m2, m3, wi, c, ftl, decide_true, Bool.true_and]
      exact ih
    · rcases F with _ | F
      · omega
      · by_cases c3 : i + 1 < X 0 0 <;> simp (disch := omega) only [fX12_isSoBy_b20, fX12_isSoBy_b20w, fX12_isSoBy_b60, zz_lt, li_0, li_1, li_2, li_3, li_4, li_5, li_6, li_7, li_8, li_9, li_10, li_11, li_12, li_15, li_16, li_20, li_21, li_24, li_25, li_26, li_32, li_33, li_38, li_40, li_41, li_42, li_43, li_45, li_47, li_48, li_57, li_58, li_59, li_60, li_61, li_62, li_63, li_74, li_75, li_84, li_91, li_93, li_98, li_100, li_103, li_105, li_107, li_109, li_110, li_111, li_112, li_115, li_118, li_119, li_120, li_121, li_124, li_140, li_180, li_206, li_240, li_255, li_420, li_520, li_999, li_1000, li_1771, li_8240, li_9999, li_88200, li_1000000, li_2097151, li_31, nI_add, pk_mul, zz_sub, zz_an, nI_clamp, zz_leT, zz_leF, zz_ltT, zz_ltF, zz_eqF, zz_eqT, zz_m1, zz_m2, zz_m3, zz_m4, zz_m5, zz_m6, zz_ck, zz_bl, zz_b3, zz_b2, zz_shl, zz_bt0, zz_bt1, pk_div, Nat.zero_add, Nat.add_zero, if_true, if_false, reduceIte, Nat.mul_zero, zz_or0, zz_inT, zz_inF, m1, m2, m3, wi, c, ftl, decide_false, Bool.false_and, Bool.toNat_false]
theorem pm_okb {X : Nat → Nat → Nat} (hX : GX X) {I : am_I} (h : MX I X) (n d : Nat) (hn : 100 < n) (L : am_L) {N x : Nat} (hN : N ≤ 3) (hx : x < 10000) : fX12_isSoBy n d (nI x) (nI N) I L = some (nI (okb X N x).toNat, I, L) := by
  have b := hX.1
  have wi := pm_wi n d (by omega) I L (k := 20) (x := x) hN (by omega) hx
  rw [cn_20] at wi
  unfold okb
  cases c : so N x 20
  · rw [c, if_neg (by decide)] at wi
    obtain ⟨F, rfl⟩ : ∃ F, n = F + 1 := ⟨n - 1, by omega⟩
    by_cases c3 : 0 < X 0 0 <;> simp (disch := omega) only [fX12_isSoBy, fX12_isSoBy_b16, fX12_isSoBy_b20, fX12_isSoBy_b20w, zz_lt, li_0, li_1, li_2, li_3, li_4, li_5, li_6, li_7, li_8, li_9, li_10, li_11, li_12, li_15, li_16, li_20, li_21, li_24, li_25, li_26, li_32, li_33, li_38, li_40, li_41, li_42, li_43, li_45, li_47, li_48, li_57, li_58, li_59, li_60, li_61, li_62, li_63, li_74, li_75, li_84, li_91, li_93, li_98, li_100, li_103, li_105, li_107, li_109, li_110, li_111, li_112, li_115, li_118, li_119, li_120, li_121, li_124, li_140, li_180, li_206, li_240, li_255, li_420, li_520, li_999, li_1000, li_1771, li_8240, li_9999, li_88200, li_1000000, li_2097151, li_31, nI_add, pk_mul, zz_sub, zz_an, nI_clamp, zz_leT, zz_leF, zz_ltT, zz_ltF, zz_eqF, zz_eqT, zz_m1, zz_m2, zz_m3, zz_m4, zz_m5, zz_m6, zz_ck, zz_bl, zz_b3, zz_b2, zz_shl, zz_bt0, zz_bt1, pk_div, Nat.zero_add, Nat.add_zero, if_true, if_false, reduceIte, Nat.mul_zero, zz_or0, zz_inT, zz_inF, wi, h.1, Bool.false_and, Bool.toNat_false]
  · rw [c, if_pos rfl] at wi
    have := pm_soL hX h n d (by omega) L hN hx c (X 0 0) 0 n (by omega) (by omega)
    simp (disch := omega) only [fX12_isSoBy, fX12_isSoBy_b16, zz_lt, li_0, li_1, li_2, li_3, li_4, li_5, li_6, li_7, li_8, li_9, li_10, li_11, li_12, li_15, li_16, li_20, li_21, li_24, li_25, li_26, li_32, li_33, li_38, li_40, li_41, li_42, li_43, li_45, li_47, li_48, li_57, li_58, li_59, li_60, li_61, li_62, li_63, li_74, li_75, li_84, li_91, li_93, li_98, li_100, li_103, li_105, li_107, li_109, li_110, li_111, li_112, li_115, li_118, li_119, li_120, li_121, li_124, li_140, li_180, li_206, li_240, li_255, li_420, li_520, li_999, li_1000, li_1771, li_8240, li_9999, li_88200, li_1000000, li_2097151, li_31, nI_add, pk_mul, zz_sub, zz_an, nI_clamp, zz_leT, zz_leF, zz_ltT, zz_ltF, zz_eqF, zz_eqT, zz_m1, zz_m2, zz_m3, zz_m4, zz_m5, zz_m6, zz_ck, zz_bl, zz_b3, zz_b2, zz_shl, zz_bt0, zz_bt1, pk_div, Nat.zero_add, Nat.add_zero, if_true, if_false, reduceIte, Nat.mul_zero, zz_or0, zz_inT, zz_inF, wi, Bool.true_and]
    exact this
theorem pm_pow (n d : Nat) (I : am_I) (L : am_L) : fX12_power n (d + 4) (nI 1) I L = some (nI 21, I, L) ∧ fX12_power n (d + 4) (nI 2) I L = some (nI 441, I, L) ∧ fX12_power n (d + 4) (nI 3) I L = some (nI 9261, I, L) := by
  refine ⟨?_, ?_, ?_⟩ <;> simp (disch := omega) only [fX12_power, gX12_power, fX12_power_g, zz_lt, li_0, li_1, li_2, li_3, li_4, li_5, li_6, li_7, li_8, li_9, li_10, li_11, li_12, li_15, li_16, li_20, li_21, li_24, li_25, li_26, li_32, li_33, li_38, li_40, li_41, li_42, li_43, li_45, li_47, li_48, li_57, li_58, li_59, li_60, li_61, li_62, li_63, li_74, li_75, li_84, li_91, li_93, li_98, li_100, li_103, li_105, li_107, li_109, li_110, li_111, li_112, li_115, li_118, li_119, li_120, li_121, li_124, li_140, li_180, li_206, li_240, li_255, li_420, li_520, li_999, li_1000, li_1771, li_8240, li_9999, li_88200, li_1000000, li_2097151, li_31, nI_add, pk_mul, zz_sub, zz_an, nI_clamp, zz_leT, zz_leF, zz_ltT, zz_ltF, zz_eqF, zz_eqT, zz_m1, zz_m2, zz_m3, zz_m4, zz_m5, zz_m6, zz_ck, zz_bl, zz_b3, zz_b2, zz_shl, zz_bt0, zz_bt1, pk_div, Nat.zero_add, Nat.add_zero, if_true, if_false, reduceIte, Nat.mul_zero, zz_or0, zz_inT, zz_inF, Nat.reduceMul, Nat.reduceSub]
/-- the class's row -/
def cR (r : Nat → Nat) (k : Nat) : Nat → Nat
  | 0 => 0
  | i + 1 => cR r k i + (if r i ≤ k then 1 else 0)
def num (r : Nat → Nat) : Nat → Nat
  | 0 => 0
  | i + 1 => num r i * 21 + r i
theorem cn_num {r : Nat → Nat} (k : Nat) : ∀ N, (∀ i, i < N → r i ≤ 20) → cn k N (num r N) = cR r k N
  | 0, _ => rfl
  | N + 1, h => by
    have := h N (by omega)
    unfold cn num cR
    rw [show (num r N * 21 + r N) % 21 = r N by omega, show (num r N * 21 + r N) / 21 = num r N by omega, cn_num k N (fun i hi => h i (by omega)), Nat.add_comm]
def RW (I : am_I) (r : Nat → Nat) : Prop := ∀ i, i < 3 → I 63 i = nI (r i) ∧ r i ≤ 20
theorem pc_hmL (n d : Nat) {I : am_I} (L : am_L) {r : Nat → Nat} (h : RW I r) {N k : Nat} (hN : N ≤ 3) (hk : k ≤ 20) : ∀ (j i F : Nat), i + j = N → j < F → fX4_howMany_b5 n d F (nI N) (nI k) (nI (cR r k i)) (nI i) I L = some (nI (cR r k N), I, L)
  | _, _, 0, _, f => by omega
  | 0, i, F + 1, e, f => by
    have e1 : i = N := by omega
    subst e1
    simp (disch := omega) only [fX4_howMany_b5, fX4_howMany_b5w, zz_lt, li_0, li_1, li_2, li_3, li_4, li_5, li_6, li_7, li_8, li_9, li_10, li_11, li_12, li_15, li_16, li_20, li_21, li_24, li_25, li_26, li_32, li_33, li_38, li_40, li_41, li_42, li_43, li_45, li_47, li_48, li_57, li_58, li_59, li_60, li_61, li_62, li_63, li_74, li_75, li_84, li_91, li_93, li_98, li_100, li_103, li_105, li_107, li_109, li_110, li_111, li_112, li_115, li_118, li_119, li_120, li_121, li_124, li_140, li_180, li_206, li_240, li_255, li_420, li_520, li_999, li_1000, li_1771, li_8240, li_9999, li_88200, li_1000000, li_2097151, li_31, nI_add, pk_mul, zz_sub, zz_an, nI_clamp, zz_leT, zz_leF, zz_ltT, zz_ltF, zz_eqF, zz_eqT, zz_m1, zz_m2, zz_m3, zz_m4, zz_m5, zz_m6, zz_ck, zz_bl, zz_b3, zz_b2, zz_shl, zz_bt0, zz_bt1, pk_div, Nat.zero_add, Nat.add_zero, if_true, if_false, reduceIte, Nat.mul_zero, zz_or0, zz_inT, zz_inF]
  | j + 1, i, F + 1, e, f => by
    have ih := pc_hmL n d L h hN hk j (i + 1) F (by omega) (by omega)
    obtain ⟨h1, h2⟩ := h i (by omega)
    by_cases c : r i ≤ k
    · simp only [cR, c, if_true] at ih
      simp (disch := omega) only [fX4_howMany_b5, fX4_howMany_b5w, fX4_howMany_b34, zz_lt, li_0, li_1, li_2, li_3, li_4, li_5, li_6, li_7, li_8, li_9, li_10, li_11, li_12, li_15, li_16, li_20, li_21, li_24, li_25, li_26, li_32, li_33, li_38, li_40, li_41, li_42, li_43, li_45, li_47, li_48, li_57, li_58, li_59, li_60, li_61, li_62, li_63, li_74, li_75, li_84, li_91, li_93, li_98, li_100, li_103, li_105, li_107, li_109, li_110, li_111, li_112, li_115, li_118, li_119, li_120, li_121, li_124, li_140, li_180, li_206, li_240, li_255, li_420, li_520, li_999, li_1000, li_1771, li_8240, li_9999, li_88200, li_1000000, li_2097151, li_31, nI_add, pk_mul, zz_sub, zz_an, nI_clamp, zz_leT, zz_leF, zz_ltT, zz_ltF, zz_eqF, zz_eqT, zz_m1, zz_m2, zz_m3, zz_m4, zz_m5, zz_m6, zz_ck, zz_bl, zz_b3, zz_b2, zz_shl, zz_bt0, zz_bt1, pk_div, Nat.zero_add, Nat.add_zero, if_true, if_false, reduceIte, Nat.mul_zero, zz_or0, zz_inT, zz_inF, h1]
      exact ih
    · simp only [cR, c, if_false, Nat.add_zero] at ih
      simp (disch := omega) only [fX4_howMany_b5, fX4_howMany_b5w, fX4_howMany_b34, zz_lt, li_0, li_1, li_2, li_3, li_4, li_5, li_6, li_7, li_8, li_9, li_10, li_11, li_12, li_15, li_16, li_20, li_21, li_24, li_25, li_26, li_32, li_33, li_38, li_40, li_41, li_42, li_43, li_45, li_47, li_48, li_57, li_58, li_59, li_60, li_61, li_62, li_63, li_74, li_75, li_84, li_91, li_93, li_98, li_100, li_103, li_105, li_107, li_109, li_110, li_111, li_112, li_115, li_118, li_119, li_120, li_121, li_124, li_140, li_180, li_206, li_240, li_255, li_420, li_520, li_999, li_1000, li_1771, li_8240, li_9999, li_88200, li_1000000, li_2097151, li_31, nI_add, pk_mul, zz_sub, zz_an, nI_clamp, zz_leT, zz_leF, zz_ltT, zz_ltF, zz_eqF, zz_eqT, zz_m1, zz_m2, zz_m3, zz_m4, zz_m5, zz_m6, zz_ck, zz_bl, zz_b3, zz_b2, zz_shl, zz_bt0, zz_bt1, pk_div, Nat.zero_add, Nat.add_zero, if_true, if_false, reduceIte, Nat.mul_zero, zz_or0, zz_inT, zz_inF, h1]
      exact ih
theorem pc_hm (n d : Nat) (hn : 8 < n) {I : am_I} (L : am_L) {r : Nat → Nat} (h : RW I r) {N k : Nat} (hN : N ≤ 3) (hk : k ≤ 20) : fX4_howMany n d (nI N) (nI k) I L = some (nI (cn k N (num r N)), I, L) := by
  rw [cn_num k N (fun i hi => (h i (by omega)).2)]
  exact pc_hmL n d L h hN hk N 0 n (by omega) (by omega)
theorem pc_ftL {X : Nat → Nat → Nat} (hX : GX X) {I : am_I} (h : CX I X) (n d : Nat) (hn : 8 < n) (L : am_L) {r : Nat → Nat} (hr : RW I r) {N : Nat} (hN : N ≤ 3) : ∀ (j i F : Nat), i + j = X 0 0 → j < F → fX4_rowFits_b2 n d F (nI N) (nI i) I L = some (nI (ftl X N (num r N) j i).toNat, I, L)
  | _, _, 0, _, f => by omega
  | 0, i, F + 1, e, f => by
    obtain ⟨m1, m2, m3⟩ := h
    have b := hX.1
    have e1 : i = X 0 0 := by omega
    subst e1
    simp (disch := omega) only [fX4_rowFits_b2, fX4_rowFits_b2w, zz_lt, li_0, li_1, li_2, li_3, li_4, li_5, li_6, li_7, li_8, li_9, li_10, li_11, li_12, li_15, li_16, li_20, li_21, li_24, li_25, li_26, li_32, li_33, li_38, li_40, li_41, li_42, li_43, li_45, li_47, li_48, li_57, li_58, li_59, li_60, li_61, li_62, li_63, li_74, li_75, li_84, li_91, li_93, li_98, li_100, li_103, li_105, li_107, li_109, li_110, li_111, li_112, li_115, li_118, li_119, li_120, li_121, li_124, li_140, li_180, li_206, li_240, li_255, li_420, li_520, li_999, li_1000, li_1771, li_8240, li_9999, li_88200, li_1000000, li_2097151, li_31, nI_add, pk_mul, zz_sub, zz_an, nI_clamp, zz_leT, zz_leF, zz_ltT, zz_ltF, zz_eqF, zz_eqT, zz_m1, zz_m2, zz_m3, zz_m4, zz_m5, zz_m6, zz_ck, zz_bl, zz_b3, zz_b2, zz_shl, zz_bt0, zz_bt1, pk_div, Nat.zero_add, Nat.add_zero, if_true, if_false, reduceIte, Nat.mul_zero, zz_or0, zz_inT, zz_inF, m1, ftl, Bool.toNat_true]
  | j + 1, i, F + 1, e, f => by
    have ih := pc_ftL hX h n d hn L hr hN j (i + 1) F (by omega) (by omega)
    obtain ⟨m1, m2, m3⟩ := h
    have b := hX.1
    have b2 := hX.2 i (by omega)
    have hm := pc_hm n d hn L hr (k := X 1 i) hN b2.1
    have cl := cn_le (X 1 i) N (num r N)
    by_cases c : cn (X 1 i) N (num r N) = X 2 i
    · simp (disch := omega) only [fX4_rowFits_b2, fX4_rowFits_b2w, zz_lt, li_0, li_1, li_2, li_3, li_4, li_5, li_6, li_7, li_8, li_9, li_10, li_11, li_12, li_15, li_16, li_20, li_21, li_24, li_25, li_26, li_32, li_33, li_38, li_40, li_41, li_42, li_43, li_45, li_47, li_48, li_57, li_58, li_59, li_60, li_61, li_62, li_63, li_74, li_75, li_84, li_91, li_93, li_98, li_100, li_103, li_105, li_107, li_109, li_110, li_111, li_112, li_115, li_118, li_119, li_120, li_121, li_124, li_140, li_180, li_206, li_240, li_255, li_420, li_520, li_999, li_1000, li_1771, li_8240, li_9999, li_88200, li_1000000, li_2097151, li_31, nI_add, pk_mul, zz_sub, zz_an, nI_clamp, zz_leT, zz_leF, zz_ltT, zz_ltF, zz_eqF, zz_eqT, zz_m1, zz_m2, zz_m3, zz_m4, zz_m5, zz_m6, zz_ck, zz_bl, zz_b3, zz_b2, zz_shl, zz_bt0, zz_bt1, pk_div, Nat.zero_add, Nat.add_zero, if_true, if_false, reduceIte, Nat.mul_zero, zz_or0, zz_inT, zz_inF, m1, m2, m3, hm, c, ftl, decide_true, Bool.true_and]
      exact ih
    · simp (disch := omega) only [fX4_rowFits_b2, fX4_rowFits_b2w, zz_lt, li_0, li_1, li_2, li_3, li_4, li_5, li_6, li_7, li_8, li_9, li_10, li_11, li_12, li_15, li_16, li_20, li_21, li_24, li_25, li_26, li_32, li_33, li_38, li_40, li_41, li_42, li_43, li_45, li_47, li_48, li_57, li_58, li_59, li_60, li_61, li_62, li_63, li_74, li_75, li_84, li_91, li_93, li_98, li_100, li_103, li_105, li_107, li_109, li_110, li_111, li_112, li_115, li_118, li_119, li_120, li_121, li_124, li_140, li_180, li_206, li_240, li_255, li_420, li_520, li_999, li_1000, li_1771, li_8240, li_9999, li_88200, li_1000000, li_2097151, li_31, nI_add, pk_mul, zz_sub, zz_an, nI_clamp, zz_leT, zz_leF, zz_ltT, zz_ltF, zz_eqF, zz_eqT, zz_m1, zz_m2, zz_m3, zz_m4, zz_m5, zz_m6, zz_ck, zz_bl, zz_b3, zz_b2, zz_shl, zz_bt0, zz_bt1, pk_div, Nat.zero_add, Nat.add_zero, if_true, if_false, reduceIte, Nat.mul_zero, zz_or0, zz_inT, zz_inF, m1, m2, m3, hm, c, ftl, decide_false, Bool.false_and, Bool.toNat_false]
theorem pc_ft {X : Nat → Nat → Nat} (hX : GX X) {I : am_I} (h : CX I X) (n d : Nat) (hn : 100 < n) (L : am_L) {r : Nat → Nat} (hr : RW I r) {N : Nat} (hN : N ≤ 3) : fX4_rowFits n d (nI N) I L = some (nI (ftl X N (num r N) (X 0 0) 0).toNat, I, L) := by
  have := hX.1
  exact pc_ftL hX h n d (by omega) L hr hN (X 0 0) 0 n (by omega) (by omega)
/-- the next row -/
def nx (r : Nat → Nat) : Nat → Option (Nat → Nat)
  | 0 => none
  | i + 1 => if r i < 20 then some (fun j => if j < i then r j else r i + 1) else nx r i
def s63 (k j : Nat) : Bool := match k with | 63 => true | _ => false
theorem pc_nx37 (n d : Nat) (L : am_L) {i v : Nat} (hi : i < 3) (r : Nat → Nat) : ∀ (m j F : Nat) (I : am_I), j + m = 3 → i < j → m < F → (∀ t, t < j → I 63 t = nI (if t < i then r t else v)) → ∃ I', fX4_nextRow_b37 n d F (nI i) (nI j) I L = some (nI 1, I', L) ∧ (∀ t, t < 3 → I' 63 t = nI (if t < i then r t else v)) ∧ am_ag s63 I I'
  | _, _, 0, _, _, _, f, _ => by omega
  | 0, j, F + 1, I, e, hj, f, h => by
    have e1 : j = 3 := by omega
    subst e1
    exact ⟨I, by simp (disch := omega) only [fX4_nextRow_b37, fX4_nextRow_b37w, zz_lt, li_0, li_1, li_2, li_3, li_4, li_5, li_6, li_7, li_8, li_9, li_10, li_11, li_12, li_15, li_16, li_20, li_21, li_24, li_25, li_26, li_32, li_33, li_38, li_40, li_41, li_42, li_43, li_45, li_47, li_48, li_57, li_58, li_59, li_60, li_61, li_62, li_63, li_74, li_75, li_84, li_91, li_93, li_98, li_100, li_103, li_105, li_107, li_109, li_110, li_111, li_112, li_115, li_118, li_119, li_120, li_121, li_124, li_140, li_180, li_206, li_240, li_255, li_420, li_520, li_999, li_1000, li_1771, li_8240, li_9999, li_88200, li_1000000, li_2097151, li_31, nI_add, pk_mul, zz_sub, zz_an, nI_clamp, zz_leT, zz_leF, zz_ltT, zz_ltF, zz_eqF, zz_eqT, zz_m1, zz_m2, zz_m3, zz_m4, zz_m5, zz_m6, zz_ck, zz_bl, zz_b3, zz_b2, zz_shl, zz_bt0, zz_bt1, pk_div, Nat.zero_add, Nat.add_zero, if_true, if_false, reduceIte, Nat.mul_zero, zz_or0, zz_inT, zz_inF], h, ag_rf⟩
  | m + 1, j, F + 1, I, e, hj, f, h => by
    have hv : I 63 i = nI v := by rw [h i hj, if_neg (by omega)]
    obtain ⟨I', w1, w2, w3⟩ := pc_nx37 n d L hi r m (j + 1) F (am_up I 63 j (nI v)) (by omega) (by omega) (by omega) (fun t ht => by
      by_cases c : t = j
      · rw [up_s c, if_neg (by omega)]
      · rw [up_n c]; exact h t (by omega))
    refine ⟨I', ?_, w2, ag_tr (ag_up ag_rf rfl) w3⟩
    rw [← w1]
    simp (disch := omega) only [fX4_nextRow_b37, fX4_nextRow_b37w, zz_lt, li_0, li_1, li_2, li_3, li_4, li_5, li_6, li_7, li_8, li_9, li_10, li_11, li_12, li_15, li_16, li_20, li_21, li_24, li_25, li_26, li_32, li_33, li_38, li_40, li_41, li_42, li_43, li_45, li_47, li_48, li_57, li_58, li_59, li_60, li_61, li_62, li_63, li_74, li_75, li_84, li_91, li_93, li_98, li_100, li_103, li_105, li_107, li_109, li_110, li_111, li_112, li_115, li_118, li_119, li_120, li_121, li_124, li_140, li_180, li_206, li_240, li_255, li_420, li_520, li_999, li_1000, li_1771, li_8240, li_9999, li_88200, li_1000000, li_2097151, li_31, nI_add, pk_mul, zz_sub, zz_an, nI_clamp, zz_leT, zz_leF, zz_ltT, zz_ltF, zz_eqF, zz_eqT, zz_m1, zz_m2, zz_m3, zz_m4, zz_m5, zz_m6, zz_ck, zz_bl, zz_b3, zz_b2, zz_shl, zz_bt0, zz_bt1, pk_div, Nat.zero_add, Nat.add_zero, if_true, if_false, reduceIte, Nat.mul_zero, zz_or0, zz_inT, zz_inF, hv]
theorem zn_a1 (i : Nat) : nI i + -nI 1 = zn i := by
  rcases i with _ | i
  · rfl
  · rw [zz_an (by omega)]; rfl
theorem pc_nxL (n d : Nat) (hn : 8 < n) (L : am_L) {I : am_I} {r : Nat → Nat} (h : RW I r) : ∀ (i F : Nat), i ≤ 3 → i < F → (nx r i = none ∧ fX4_nextRow_b8 n d F (zn i) I L = some (nI 0, I, L)) ∨ (∃ r' I', nx r i = some r' ∧ fX4_nextRow_b8 n d F (zn i) I L = some (nI 1, I', L) ∧ RW I' r' ∧ am_ag s63 I I')
  | _, 0, _, f => by omega
  | 0, F + 1, hi, f => by
    left
    refine ⟨rfl, ?_⟩
    rw [en_0]
    simp (disch := omega) only [fX4_nextRow_b8, fX4_nextRow_b8w, zz_lt, li_0, li_1, li_2, li_3, li_4, li_5, li_6, li_7, li_8, li_9, li_10, li_11, li_12, li_15, li_16, li_20, li_21, li_24, li_25, li_26, li_32, li_33, li_38, li_40, li_41, li_42, li_43, li_45, li_47, li_48, li_57, li_58, li_59, li_60, li_61, li_62, li_63, li_74, li_75, li_84, li_91, li_93, li_98, li_100, li_103, li_105, li_107, li_109, li_110, li_111, li_112, li_115, li_118, li_119, li_120, li_121, li_124, li_140, li_180, li_206, li_240, li_255, li_420, li_520, li_999, li_1000, li_1771, li_8240, li_9999, li_88200, li_1000000, li_2097151, li_31, nI_add, pk_mul, zz_sub, zz_an, nI_clamp, zz_leT, zz_leF, zz_ltT, zz_ltF, zz_eqF, zz_eqT, zz_m1, zz_m2, zz_m3, zz_m4, zz_m5, zz_m6, zz_ck, zz_bl, zz_b3, zz_b2, zz_shl, zz_bt0, zz_bt1, pk_div, Nat.zero_add, Nat.add_zero, if_true, if_false, reduceIte, Nat.mul_zero, zz_or0, zz_inT, zz_inF, show (-nI 1 < nI 0) = True from by decide]
  | i + 1, F + 1, hi, f => by
    have ih := pc_nxL n d hn L h i F (by omega) (by omega)
    obtain ⟨h1, h2⟩ := h i (by omega)
    by_cases c : r i < 20
    · right
      obtain ⟨I', w1, w2, w3⟩ := pc_nx37 n d L (i := i) (v := r i + 1) (by omega) r (2 - i) (i + 1) n (am_up I 63 i (nI (r i + 1))) (by omega) (by omega) (by omega) (fun t ht => by
        by_cases c2 : t = i
        · rw [up_s c2, if_neg (by omega)]
        · rw [up_n c2, if_pos (by omega)]; exact (h t (by omega)).1)
      refine ⟨fun j => if j < i then r j else r i + 1, I', by unfold nx; rw [if_pos c], ?_, fun t ht => ⟨w2 t ht, ?_⟩, ag_tr (ag_up ag_rf rfl) w3⟩
      · rw [← w1, en_s]
        simp (disch := omega) only [fX4_nextRow_b8, fX4_nextRow_b8w, zz_lt, li_0, li_1, li_2, li_3, li_4, li_5, li_6, li_7, li_8, li_9, li_10, li_11, li_12, li_15, li_16, li_20, li_21, li_24, li_25, li_26, li_32, li_33, li_38, li_40, li_41, li_42, li_43, li_45, li_47, li_48, li_57, li_58, li_59, li_60, li_61, li_62, li_63, li_74, li_75, li_84, li_91, li_93, li_98, li_100, li_103, li_105, li_107, li_109, li_110, li_111, li_112, li_115, li_118, li_119, li_120, li_121, li_124, li_140, li_180, li_206, li_240, li_255, li_420, li_520, li_999, li_1000, li_1771, li_8240, li_9999, li_88200, li_1000000, li_2097151, li_31, nI_add, pk_mul, zz_sub, zz_an, nI_clamp, zz_leT, zz_leF, zz_ltT, zz_ltF, zz_eqF, zz_eqT, zz_m1, zz_m2, zz_m3, zz_m4, zz_m5, zz_m6, zz_ck, zz_bl, zz_b3, zz_b2, zz_shl, zz_bt0, zz_bt1, pk_div, Nat.zero_add, Nat.add_zero, if_true, if_false, reduceIte, Nat.mul_zero, zz_or0, zz_inT, zz_inF, h1]
      · have := (h t ht).2
        show (if t < i then r t else r i + 1) ≤ 20
        split <;> omega
    · have s1 : fX4_nextRow_b8 n d (F + 1) (zn (i + 1)) I L = fX4_nextRow_b8 n d F (zn i) I L := by
        rw [en_s]
        simp (disch := omega) only [fX4_nextRow_b8, fX4_nextRow_b8w, zz_lt, li_0, li_1, li_2, li_3, li_4, li_5, li_6, li_7, li_8, li_9, li_10, li_11, li_12, li_15, li_16, li_20, li_21, li_24, li_25, li_26, li_32, li_33, li_38, li_40, li_41, li_42, li_43, li_45, li_47, li_48, li_57, li_58, li_59, li_60, li_61, li_62, li_63, li_74, li_75, li_84, li_91, li_93, li_98, li_100, li_103, li_105, li_107, li_109, li_110, li_111, li_112, li_115, li_118, li_119, li_120, li_121, li_124, li_140, li_180, li_206, li_240, li_255, li_420, li_520, li_999, li_1000, li_1771, li_8240, li_9999, li_88200, li_1000000, li_2097151, li_31, nI_add, pk_mul, zz_an, nI_clamp, zz_leT, zz_leF, zz_ltT, zz_ltF, zz_eqF, zz_eqT, zz_m1, zz_m2, zz_m3, zz_m4, zz_m5, zz_m6, zz_ck, zz_bl, zz_b3, zz_b2, zz_shl, zz_bt0, zz_bt1, pk_div, Nat.zero_add, Nat.add_zero, if_true, if_false, reduceIte, Nat.mul_zero, zz_or0, zz_inT, zz_inF, h1, zn_a1]
      have s2 : nx r (i + 1) = nx r i := by
        show (if r i < 20 then _ else _) = _
        rw [if_neg c]
      rw [s1, s2]
      exact ih
theorem pc_nx (n d : Nat) (hn : 8 < n) (L : am_L) {I : am_I} {r : Nat → Nat} (h : RW I r) {N : Nat} (h1 : 1 ≤ N) (hN : N ≤ 3) : (nx r N = none ∧ fX4_nextRow n d (nI N) I L = some (nI 0, I, L)) ∨ (∃ r' I', nx r N = some r' ∧ fX4_nextRow n d (nI N) I L = some (nI 1, I', L) ∧ RW I' r' ∧ am_ag s63 I I') := by
  have mn := J_min n d N 3 I L (by omega) (by omega)
  have s1 : fX4_nextRow n d (nI N) I L = fX4_nextRow_b8 n d n (zn N) I L := by
    unfold fX4_nextRow
    rw [li_3, mn, zz_b3, show min N 3 = N by omega, li_1]
    show fX4_nextRow_b8 n d n (nI N - nI 1) I L = _
    rw [zn_m1]
  rw [s1]
  exact pc_nxL n d hn L h N n hN (by omega)
def t2 : Nat → Nat
  | 0 => 0
  | m + 1 => t2 m + (m + 1)
def t3 : Nat → Nat
  | 0 => 0
  | m + 1 => t3 m + t2 (m + 1)
/-- how many rows are left, with this one -/
def rem (N : Nat) (r : Nat → Nat) : Nat := match N with
  | 1 => 21 - r 0
  | 2 => t2 (20 - r 0) + (21 - r 1)
  | _ => t3 (20 - r 0) + t2 (20 - r 1) + (21 - r 2)
def SRT (N : Nat) (r : Nat → Nat) : Prop := (∀ i, i < 3 → r i ≤ 20) ∧ (2 ≤ N → r 0 ≤ r 1) ∧ (3 ≤ N → r 1 ≤ r 2)
theorem nx_ok {N P : Nat} {r r' : Nat → Nat} (hN : (N = 1 ∧ P = 21) ∨ (N = 2 ∧ P = 441) ∨ (N = 3 ∧ P = 9261)) (h : SRT N r) (e : nx r N = some r') : SRT N r' ∧ num r N < num r' N ∧ num r' N < P ∧ (∀ y, num r N < y → y < num r' N → so N y 20 = false) ∧ rem N r' + 1 = rem N r := by
  obtain ⟨h1, h2, h3⟩ := h
  have a0 := h1 0 (by omega)
  have a1 := h1 1 (by omega)
  have a2 := h1 2 (by omega)
  have srt : ∀ i, i < 3 → r i < 20 → (∀ j, j < i → r j ≤ r i) → (i < 2 ∨ r 0 ≤ r 1) → SRT N (fun j => if j < i then r j else r i + 1) := fun i hi h20 hs h01 => by
    refine ⟨fun t ht => ?_, fun _ => ?_, fun _ => ?_⟩
    · have := h1 t ht
      show (if t < i then r t else r i + 1) ≤ 20
      split <;> omega
    · show (if 0 < i then r 0 else r i + 1) ≤ (if 1 < i then r 1 else r i + 1)
      by_cases c0 : 0 < i
      · rw [if_pos c0]
        have := hs 0 c0
        split
        · exact h01.resolve_left (by omega)
        · omega
      · rw [if_neg c0, if_neg (by omega)]; omega
    · show (if 1 < i then r 1 else r i + 1) ≤ (if 2 < i then r 2 else r i + 1)
      rw [if_neg (by omega : ¬ 2 < i)]
      split
      next c => have := hs 1 c; omega
      · omega
  rcases hN with ⟨rfl, rfl⟩ | ⟨rfl, rfl⟩ | ⟨rfl, rfl⟩
  · simp only [nx] at e
    by_cases c0 : r 0 < 20
    · rw [if_pos c0] at e
      cases e
      refine ⟨srt 0 (by omega) c0 (fun j hj => by omega) (by omega), ?_, ?_, fun y g1 g2 => ?_, ?_⟩
      · simp [num]
      · simp [num]; omega
      · simp [num] at g1 g2; omega
      · simp [rem]; omega
    · rw [if_neg c0] at e; cases e
  · have b := h2 (by omega)
    simp only [nx] at e
    by_cases c1 : r 1 < 20
    · rw [if_pos c1] at e
      cases e
      refine ⟨srt 1 (by omega) c1 (fun j hj => by have z : j = 0 := (by omega); subst z; exact b) (by omega), ?_, ?_, fun y g1 g2 => ?_, ?_⟩
      · simp [num]
      · simp [num]; omega
      · simp [num] at g1 g2; omega
      · simp [rem]; omega
    · rw [if_neg c1] at e
      by_cases c0 : r 0 < 20
      · rw [if_pos c0] at e
        cases e
        refine ⟨srt 0 (by omega) c0 (fun j hj => by omega) (by omega), ?_, ?_, fun y g1 g2 => ?_, ?_⟩
        · simp [num]; omega
        · simp [num]; omega
        · simp [num] at g1 g2
          simp only [so, Bool.and_true, Bool.and_eq_false_iff, decide_eq_false_iff_not]
          omega
        · obtain ⟨m, hm⟩ : ∃ m, 20 - r 0 = m + 1 := ⟨19 - r 0, by omega⟩
          have hm2 : 20 - (r 0 + 1) = m := by omega
          simp [rem, hm, hm2, t2]
          omega
      · rw [if_neg c0] at e; cases e
  · have b := h2 (by omega)
    have b2 := h3 (by omega)
    simp only [nx] at e
    by_cases c2 : r 2 < 20
    · rw [if_pos c2] at e
      cases e
      refine ⟨srt 2 (by omega) c2 (fun j hj => by rcases (by omega : j = 0 ∨ j = 1) with rfl | rfl <;> omega) (Or.inr b), ?_, ?_, fun y g1 g2 => ?_, ?_⟩
      · simp [num]
      · simp [num]; omega
      · simp [num] at g1 g2; omega
      · simp [rem]; omega
    · rw [if_neg c2] at e
      by_cases c1 : r 1 < 20
      · rw [if_pos c1] at e
        cases e
        refine ⟨srt 1 (by omega) c1 (fun j hj => by have z : j = 0 := (by omega); subst z; exact b) (by omega), ?_, ?_, fun y g1 g2 => ?_, ?_⟩
        · simp [num]; omega
        · simp [num]; omega
        · simp [num] at g1 g2
          simp only [so, Bool.and_true, Bool.and_eq_false_iff, decide_eq_false_iff_not]
          omega
        · obtain ⟨m, hm⟩ : ∃ m, 20 - r 1 = m + 1 := ⟨19 - r 1, by omega⟩
          have hm2 : 20 - (r 1 + 1) = m := by omega
          simp [rem, hm, hm2, t2]
          omega
      · rw [if_neg c1] at e
        by_cases c0 : r 0 < 20
        · rw [if_pos c0] at e
          cases e
          refine ⟨srt 0 (by omega) c0 (fun j hj => by omega) (by omega), ?_, ?_, fun y g1 g2 => ?_, ?_⟩
          · simp [num]; omega
          · simp [num]; omega
          · simp [num] at g1 g2
            simp only [so, Bool.and_true, Bool.and_eq_false_iff, decide_eq_false_iff_not]
            omega
          · obtain ⟨m, hm⟩ : ∃ m, 20 - r 0 = m + 1 := ⟨19 - r 0, by omega⟩
            have hm2 : 20 - (r 0 + 1) = m := by omega
            have hm3 : 20 - r 1 = 0 := by omega
            simp [rem, hm, hm2, hm3, t2, t3]
            omega
        · rw [if_neg c0] at e; cases e
theorem nx_no {N P : Nat} {r : Nat → Nat} (hN : (N = 1 ∧ P = 21) ∨ (N = 2 ∧ P = 441) ∨ (N = 3 ∧ P = 9261)) (h : SRT N r) (e : nx r N = none) : num r N + 1 = P := by
  obtain ⟨h1, h2, h3⟩ := h
  have a0 := h1 0 (by omega)
  have a1 := h1 1 (by omega)
  have a2 := h1 2 (by omega)
  rcases hN with ⟨rfl, rfl⟩ | ⟨rfl, rfl⟩ | ⟨rfl, rfl⟩
  · simp only [nx] at e
    by_cases c0 : r 0 < 20
    · rw [if_pos c0] at e; cases e
    · simp [num]; omega
  · simp only [nx] at e
    by_cases c1 : r 1 < 20
    · rw [if_pos c1] at e; cases e
    · rw [if_neg c1] at e
      by_cases c0 : r 0 < 20
      · rw [if_pos c0] at e; cases e
      · simp [num]; omega
  · simp only [nx] at e
    by_cases c2 : r 2 < 20
    · rw [if_pos c2] at e; cases e
    · rw [if_neg c2] at e
      by_cases c1 : r 1 < 20
      · rw [if_pos c1] at e; cases e
      · rw [if_neg c1] at e
        by_cases c0 : r 0 < 20
        · rw [if_pos c0] at e; cases e
        · simp [num]; omega
theorem rem_pos {N : Nat} {r : Nat → Nat} (h : SRT N r) : 1 ≤ rem N r := by
  have a0 := h.1 0 (by omega)
  have a1 := h.1 1 (by omega)
  have a2 := h.1 2 (by omega)
  unfold rem
  split <;> omega
theorem so_num {N P : Nat} {r : Nat → Nat} (hN : (N = 1 ∧ P = 21) ∨ (N = 2 ∧ P = 441) ∨ (N = 3 ∧ P = 9261)) (h : SRT N r) : so N (num r N) 20 = true ∧ num r N < P := by
  obtain ⟨h1, h2, h3⟩ := h
  have a0 := h1 0 (by omega)
  have a1 := h1 1 (by omega)
  have a2 := h1 2 (by omega)
  have e1 : num r 1 = r 0 := by simp [num]
  have e2 : num r 2 = r 0 * 21 + r 1 := by simp [num]
  have e3 : num r 3 = (r 0 * 21 + r 1) * 21 + r 2 := by simp [num]
  rcases hN with ⟨rfl, rfl⟩ | ⟨rfl, rfl⟩ | ⟨rfl, rfl⟩
  · refine ⟨?_, ?_⟩
    · rw [e1]; simp only [so, Bool.and_true, decide_eq_true_eq]; omega
    · rw [e1]; omega
  · have b := h2 (by omega)
    refine ⟨?_, ?_⟩
    · rw [e2]; simp only [so, Bool.and_true, Bool.and_eq_true, decide_eq_true_eq]; omega
    · rw [e2]; omega
  · have b := h2 (by omega)
    have b2 := h3 (by omega)
    refine ⟨?_, ?_⟩
    · rw [e3]; simp only [so, Bool.and_true, Bool.and_eq_true, decide_eq_true_eq]; omega
    · rw [e3]; omega
