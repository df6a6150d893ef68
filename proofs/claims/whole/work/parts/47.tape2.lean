/-! PURE: the tape read on both sides. -/
def GT (n : Nat) (t : Nat → Nat) : Prop := n ≤ 240 ∧ ∀ j, j < n → t j ≤ 255
def TC (I : am_I) (n : Nat) (t : Nat → Nat) : Prop := I 1 1 = nI n ∧ ∀ j, j < n → I 2 j = nI (t j)
def TM (I : am_I) (n : Nat) (t : Nat → Nat) : Prop := I 0 2 = nI n ∧ ∀ j, j < n → I 1 j = nI (t j)
/-- the byte there, with 1 more; 0 behind the end -/
def bx (n : Nat) (t : Nat → Nat) (i : Nat) : Nat := if i < n then t i + 1 else 0
def nbf (t : Nat → Nat) : Nat → Nat → Nat
  | 0, i => i
  | j + 1, i => if t i = 32 then nbf t j (i + 1) else i
/-- the first place from there on that is no blank -/
def nb (n : Nat) (t : Nat → Nat) (i : Nat) : Nat := nbf t (n - i) i
def dg (n : Nat) (t : Nat → Nat) (i : Nat) : Bool := decide (49 ≤ bx n t i ∧ bx n t i ≤ 58)
theorem bx_lt {n i : Nat} {t : Nat → Nat} (h : i < n) : bx n t i = t i + 1 := if_pos h
theorem bx_ge {n i : Nat} {t : Nat → Nat} (h : n ≤ i) : bx n t i = 0 := if_neg (by omega)
theorem bx_le {n : Nat} {t : Nat → Nat} (h : GT n t) (i : Nat) : bx n t i ≤ 256 := by
  unfold bx
  split
  next c => have := h.2 i c; omega
  · omega
theorem bx_in {n i : Nat} {t : Nat → Nat} (h : 0 < bx n t i) : i < n := by
  by_cases c : i < n
  · exact c
  · rw [bx_ge (by omega)] at h; omega
theorem nbf_ge (t : Nat → Nat) : ∀ j i, i ≤ nbf t j i ∧ nbf t j i ≤ i + j
  | 0, i => ⟨Nat.le_refl _, Nat.le_refl _⟩
  | j + 1, i => by
    have := nbf_ge t j (i + 1)
    unfold nbf
    split <;> omega
theorem nb_ge (n : Nat) (t : Nat → Nat) (i : Nat) : i ≤ nb n t i := (nbf_ge t _ i).1
theorem nb_le {n : Nat} {t : Nat → Nat} {i : Nat} (h : i ≤ n) : nb n t i ≤ n := by
  have := (nbf_ge t (n - i) i).2
  unfold nb
  omega
theorem nb_end {n : Nat} {t : Nat → Nat} {i : Nat} (h : n ≤ i) : nb n t i = i := by
  unfold nb
  rw [show n - i = 0 by omega]
  rfl
theorem nb_b {n : Nat} {t : Nat → Nat} {i : Nat} (h : i < n) (h2 : t i = 32) : nb n t i = nb n t (i + 1) := by
  unfold nb
  rw [show n - i = (n - (i + 1)) + 1 by omega]
  show (if t i = 32 then _ else _) = _
  rw [if_pos h2]
theorem nb_nb {n : Nat} {t : Nat → Nat} {i : Nat} (h2 : i < n → t i ≠ 32) : nb n t i = i := by
  by_cases h : i < n
  · unfold nb
    rw [show n - i = (n - (i + 1)) + 1 by omega]
    show (if t i = 32 then _ else _) = _
    rw [if_neg (h2 h)]
  · exact nb_end (by omega)
theorem nbf_nb (t : Nat → Nat) : ∀ j i, nbf t j i < i + j → t (nbf t j i) ≠ 32
  | 0, i, h => by unfold nbf at h; omega
  | j + 1, i, h => by
    unfold nbf at h ⊢
    by_cases c : t i = 32
    · rw [if_pos c] at h ⊢; exact nbf_nb t j (i + 1) (by omega)
    · rw [if_neg c]; exact c
theorem nb_no {n : Nat} {t : Nat → Nat} {i : Nat} (hi : i ≤ n) (h : nb n t i < n) : t (nb n t i) ≠ 32 := nbf_nb t _ i (by unfold nb at h; omega)
theorem nb_id {n : Nat} {t : Nat → Nat} {i : Nat} (hi : i ≤ n) : nb n t (nb n t i) = nb n t i := nb_nb (fun h => nb_no hi h)
/-- the class's -/
theorem pc_at {n : Nat} {t : Nat → Nat} (hG : GT n t) (f d : Nat) {I : am_I} (h : TC I n t) (L : am_L) {i : Nat} (hi : i < 1000) : fX8_at f d (nI i) I L = some (zn (bx n t i), I, L) := by
  obtain ⟨h1, h2⟩ := h
  have g := hG.1
  by_cases c : i < n
  · rw [bx_lt c, en_s]
    have h3 := h2 i c
    simp (disch := omega) only [fX8_at, zz_lt, li_0, li_1, li_2, li_3, li_4, li_5, li_6, li_7, li_8, li_9, li_10, li_11, li_12, li_15, li_16, li_20, li_21, li_24, li_25, li_26, li_32, li_33, li_38, li_40, li_41, li_42, li_43, li_45, li_47, li_48, li_57, li_58, li_59, li_60, li_61, li_62, li_63, li_74, li_75, li_84, li_91, li_93, li_98, li_100, li_103, li_105, li_107, li_109, li_110, li_111, li_112, li_115, li_118, li_119, li_120, li_121, li_124, li_140, li_180, li_206, li_240, li_255, li_420, li_520, li_999, li_1000, li_1771, li_8240, li_9999, li_88200, li_1000000, li_2097151, li_31, nI_add, pk_mul, zz_sub, zz_an, nI_clamp, zz_leT, zz_leF, zz_ltT, zz_ltF, zz_eqF, zz_eqT, zz_m1, zz_m2, zz_m3, zz_m4, zz_m5, zz_m6, zz_ck, zz_bl, zz_b3, zz_b2, zz_shl, zz_bt0, zz_bt1, pk_div, Nat.zero_add, Nat.add_zero, if_true, if_false, reduceIte, Nat.mul_zero, zz_or0, zz_inT, zz_inF, h1, h3]
  · rw [bx_ge (by omega), en_0]
    simp (disch := omega) only [fX8_at, zz_lt, li_0, li_1, li_2, li_3, li_4, li_5, li_6, li_7, li_8, li_9, li_10, li_11, li_12, li_15, li_16, li_20, li_21, li_24, li_25, li_26, li_32, li_33, li_38, li_40, li_41, li_42, li_43, li_45, li_47, li_48, li_57, li_58, li_59, li_60, li_61, li_62, li_63, li_74, li_75, li_84, li_91, li_93, li_98, li_100, li_103, li_105, li_107, li_109, li_110, li_111, li_112, li_115, li_118, li_119, li_120, li_121, li_124, li_140, li_180, li_206, li_240, li_255, li_420, li_520, li_999, li_1000, li_1771, li_8240, li_9999, li_88200, li_1000000, li_2097151, li_31, nI_add, pk_mul, zz_sub, zz_an, nI_clamp, zz_leT, zz_leF, zz_ltT, zz_ltF, zz_eqF, zz_eqT, zz_m1, zz_m2, zz_m3, zz_m4, zz_m5, zz_m6, zz_ck, zz_bl, zz_b3, zz_b2, zz_shl, zz_bt0, zz_bt1, pk_div, Nat.zero_add, Nat.add_zero, if_true, if_false, reduceIte, Nat.mul_zero, zz_or0, zz_inT, zz_inF, h1]
theorem pc_bbL {n : Nat} {t : Nat → Nat} (hG : GT n t) (f d : Nat) {I : am_I} (h : TC I n t) (L : am_L) : ∀ (j i F : Nat), n - i = j → j < F → i < 1000 → fX8_behindBlanks_b2 f d F (nI i) I L = some (nI (nb n t i), I, L)
  | _, _, 0, _, fu, _ => by omega
  | 0, i, F + 1, e, fu, hi => by
    obtain ⟨h1, h2⟩ := h
    have g := hG.1
    rw [nb_end (by omega)]
    simp (disch := omega) only [fX8_behindBlanks_b2, fX8_behindBlanks_b2w, zz_lt, li_0, li_1, li_2, li_3, li_4, li_5, li_6, li_7, li_8, li_9, li_10, li_11, li_12, li_15, li_16, li_20, li_21, li_24, li_25, li_26, li_32, li_33, li_38, li_40, li_41, li_42, li_43, li_45, li_47, li_48, li_57, li_58, li_59, li_60, li_61, li_62, li_63, li_74, li_75, li_84, li_91, li_93, li_98, li_100, li_103, li_105, li_107, li_109, li_110, li_111, li_112, li_115, li_118, li_119, li_120, li_121, li_124, li_140, li_180, li_206, li_240, li_255, li_420, li_520, li_999, li_1000, li_1771, li_8240, li_9999, li_88200, li_1000000, li_2097151, li_31, nI_add, pk_mul, zz_sub, zz_an, nI_clamp, zz_leT, zz_leF, zz_ltT, zz_ltF, zz_eqF, zz_eqT, zz_m1, zz_m2, zz_m3, zz_m4, zz_m5, zz_m6, zz_ck, zz_bl, zz_b3, zz_b2, zz_shl, zz_bt0, zz_bt1, pk_div, Nat.zero_add, Nat.add_zero, if_true, if_false, reduceIte, Nat.mul_zero, zz_or0, zz_inT, zz_inF, h1]
  | j + 1, i, F + 1, e, fu, hi => by
    have ih := pc_bbL hG f d h L j (i + 1) F (by omega) (by omega) (by have := hG.1; omega)
    obtain ⟨h1, h2⟩ := h
    have g := hG.1
    have h3 := h2 i (by omega)
    have h4 := hG.2 i (by omega)
    by_cases c : t i = 32
    · rw [nb_b (by omega) c, ← ih]
      simp (disch := omega) only [fX8_behindBlanks_b2, fX8_behindBlanks_b2w, zz_lt, li_0, li_1, li_2, li_3, li_4, li_5, li_6, li_7, li_8, li_9, li_10, li_11, li_12, li_15, li_16, li_20, li_21, li_24, li_25, li_26, li_32, li_33, li_38, li_40, li_41, li_42, li_43, li_45, li_47, li_48, li_57, li_58, li_59, li_60, li_61, li_62, li_63, li_74, li_75, li_84, li_91, li_93, li_98, li_100, li_103, li_105, li_107, li_109, li_110, li_111, li_112, li_115, li_118, li_119, li_120, li_121, li_124, li_140, li_180, li_206, li_240, li_255, li_420, li_520, li_999, li_1000, li_1771, li_8240, li_9999, li_88200, li_1000000, li_2097151, li_31, nI_add, pk_mul, zz_sub, zz_an, nI_clamp, zz_leT, zz_leF, zz_ltT, zz_ltF, zz_eqF, zz_eqT, zz_m1, zz_m2, zz_m3, zz_m4, zz_m5, zz_m6, zz_ck, zz_bl, zz_b3, zz_b2, zz_shl, zz_bt0, zz_bt1, pk_div, Nat.zero_add, Nat.add_zero, if_true, if_false, reduceIte, Nat.mul_zero, zz_or0, zz_inT, zz_inF, h1, h3, c]
    · rw [nb_nb (fun _ => c)]
      simp (disch := omega) only [fX8_behindBlanks_b2, fX8_behindBlanks_b2w, zz_lt, li_0, li_1, li_2, li_3, li_4, li_5, li_6, li_7, li_8, li_9, li_10, li_11, li_12, li_15, li_16, li_20, li_21, li_24, li_25, li_26, li_32, li_33, li_38, li_40, li_41, li_42, li_43, li_45, li_47, li_48, li_57, li_58, li_59, li_60, li_61, li_62, li_63, li_74, li_75, li_84, li_91, li_93, li_98, li_100, li_103, li_105, li_107, li_109, li_110, li_111, li_112, li_115, li_118, li_119, li_120, li_121, li_124, li_140, li_180, li_206, li_240, li_255, li_420, li_520, li_999, li_1000, li_1771, li_8240, li_9999, li_88200, li_1000000, li_2097151, li_31, nI_add, pk_mul, zz_sub, zz_an, nI_clamp, zz_leT, zz_leF, zz_ltT, zz_ltF, zz_eqF, zz_eqT, zz_m1, zz_m2, zz_m3, zz_m4, zz_m5, zz_m6, zz_ck, zz_bl, zz_b3, zz_b2, zz_shl, zz_bt0, zz_bt1, pk_div, Nat.zero_add, Nat.add_zero, if_true, if_false, reduceIte, Nat.mul_zero, zz_or0, zz_inT, zz_inF, h1, h3, c]
theorem pc_bb {n : Nat} {t : Nat → Nat} (hG : GT n t) (f d : Nat) (hf : 300 < f) {I : am_I} (h : TC I n t) (L : am_L) {i : Nat} (hi : i < 1000) : fX8_behindBlanks f d (nI i) I L = some (nI (nb n t i), I, L) := by
  unfold fX8_behindBlanks
  rw [zz_lt]
  exact pc_bbL hG f d h L (n - i) i f rfl (by have := hG.1; omega) hi
theorem pc_dg {n : Nat} {t : Nat → Nat} (hG : GT n t) (f d : Nat) {I : am_I} (h : TC I n t) (L : am_L) {i : Nat} (hi : i < 1000) : fX8_digitAt f d (nI i) I L = some (nI (dg n t i).toNat, I, L) := by
  obtain ⟨h1, h2⟩ := h
  have g := hG.1
  unfold dg
  by_cases c : i < n
  · rw [bx_lt c]
    have h3 := h2 i c
    have h4 := hG.2 i c
    by_cases c1 : t i < 48
    · rw [decide_eq_false (by omega)]
      simp (disch := omega) only [fX8_digitAt, fX8_digitAt_b26, zz_lt, li_0, li_1, li_2, li_3, li_4, li_5, li_6, li_7, li_8, li_9, li_10, li_11, li_12, li_15, li_16, li_20, li_21, li_24, li_25, li_26, li_32, li_33, li_38, li_40, li_41, li_42, li_43, li_45, li_47, li_48, li_57, li_58, li_59, li_60, li_61, li_62, li_63, li_74, li_75, li_84, li_91, li_93, li_98, li_100, li_103, li_105, li_107, li_109, li_110, li_111, li_112, li_115, li_118, li_119, li_120, li_121, li_124, li_140, li_180, li_206, li_240, li_255, li_420, li_520, li_999, li_1000, li_1771, li_8240, li_9999, li_88200, li_1000000, li_2097151, li_31, nI_add, pk_mul, zz_sub, zz_an, nI_clamp, zz_leT, zz_leF, zz_ltT, zz_ltF, zz_eqF, zz_eqT, zz_m1, zz_m2, zz_m3, zz_m4, zz_m5, zz_m6, zz_ck, zz_bl, zz_b3, zz_b2, zz_shl, zz_bt0, zz_bt1, pk_div, Nat.zero_add, Nat.add_zero, if_true, if_false, reduceIte, Nat.mul_zero, zz_or0, zz_inT, zz_inF, h1, h3, Bool.toNat_false]
    · by_cases c2 : 57 < t i
      · rw [decide_eq_false (by omega)]
        simp (disch := omega) only [fX8_digitAt, fX8_digitAt_b26, zz_lt, li_0, li_1, li_2, li_3, li_4, li_5, li_6, li_7, li_8, li_9, li_10, li_11, li_12, li_15, li_16, li_20, li_21, li_24, li_25, li_26, li_32, li_33, li_38, li_40, li_41, li_42, li_43, li_45, li_47, li_48, li_57, li_58, li_59, li_60, li_61, li_62, li_63, li_74, li_75, li_84, li_91, li_93, li_98, li_100, li_103, li_105, li_107, li_109, li_110, li_111, li_112, li_115, li_118, li_119, li_120, li_121, li_124, li_140, li_180, li_206, li_240, li_255, li_420, li_520, li_999, li_1000, li_1771, li_8240, li_9999, li_88200, li_1000000, li_2097151, li_31, nI_add, pk_mul, zz_sub, zz_an, nI_clamp, zz_leT, zz_leF, zz_ltT, zz_ltF, zz_eqF, zz_eqT, zz_m1, zz_m2, zz_m3, zz_m4, zz_m5, zz_m6, zz_ck, zz_bl, zz_b3, zz_b2, zz_shl, zz_bt0, zz_bt1, pk_div, Nat.zero_add, Nat.add_zero, if_true, if_false, reduceIte, Nat.mul_zero, zz_or0, zz_inT, zz_inF, h1, h3, Bool.toNat_false]
      · rw [decide_eq_true (by omega)]
        simp (disch := omega) only [fX8_digitAt, fX8_digitAt_b26, zz_lt, li_0, li_1, li_2, li_3, li_4, li_5, li_6, li_7, li_8, li_9, li_10, li_11, li_12, li_15, li_16, li_20, li_21, li_24, li_25, li_26, li_32, li_33, li_38, li_40, li_41, li_42, li_43, li_45, li_47, li_48, li_57, li_58, li_59, li_60, li_61, li_62, li_63, li_74, li_75, li_84, li_91, li_93, li_98, li_100, li_103, li_105, li_107, li_109, li_110, li_111, li_112, li_115, li_118, li_119, li_120, li_121, li_124, li_140, li_180, li_206, li_240, li_255, li_420, li_520, li_999, li_1000, li_1771, li_8240, li_9999, li_88200, li_1000000, li_2097151, li_31, nI_add, pk_mul, zz_sub, zz_an, nI_clamp, zz_leT, zz_leF, zz_ltT, zz_ltF, zz_eqF, zz_eqT, zz_m1, zz_m2, zz_m3, zz_m4, zz_m5, zz_m6, zz_ck, zz_bl, zz_b3, zz_b2, zz_shl, zz_bt0, zz_bt1, pk_div, Nat.zero_add, Nat.add_zero, if_true, if_false, reduceIte, Nat.mul_zero, zz_or0, zz_inT, zz_inF, h1, h3, Bool.toNat_true]
  · rw [bx_ge (by omega)]
    simp (disch := omega) only [fX8_digitAt, fX8_digitAt_b25, fX8_digitAt_b26, zz_lt, li_0, li_1, li_2, li_3, li_4, li_5, li_6, li_7, li_8, li_9, li_10, li_11, li_12, li_15, li_16, li_20, li_21, li_24, li_25, li_26, li_32, li_33, li_38, li_40, li_41, li_42, li_43, li_45, li_47, li_48, li_57, li_58, li_59, li_60, li_61, li_62, li_63, li_74, li_75, li_84, li_91, li_93, li_98, li_100, li_103, li_105, li_107, li_109, li_110, li_111, li_112, li_115, li_118, li_119, li_120, li_121, li_124, li_140, li_180, li_206, li_240, li_255, li_420, li_520, li_999, li_1000, li_1771, li_8240, li_9999, li_88200, li_1000000, li_2097151, li_31, nI_add, pk_mul, zz_sub, zz_an, nI_clamp, zz_leT, zz_leF, zz_ltT, zz_ltF, zz_eqF, zz_eqT, zz_m1, zz_m2, zz_m3, zz_m4, zz_m5, zz_m6, zz_ck, zz_bl, zz_b3, zz_b2, zz_shl, zz_bt0, zz_bt1, pk_div, Nat.zero_add, Nat.add_zero, if_true, if_false, reduceIte, Nat.mul_zero, zz_or0, zz_inT, zz_inF, h1, show decide (49 ≤ 0 ∧ 0 ≤ 58) = false from rfl, Bool.toNat_false]
/-- the model's: where it is, what is wrong -/
def mp (I : am_I) (a : Nat) (w : Int32) : am_I := am_up (am_up I 0 3 (nI a)) 0 4 w
theorem mp_3 (I : am_I) (a : Nat) (w : Int32) : mp I a w 0 3 = nI a := by unfold mp; rw [up_n (by omega), up_s rfl]
theorem mp_4 (I : am_I) (a : Nat) (w : Int32) : mp I a w 0 4 = w := up_s rfl
theorem mp_k (I : am_I) (a : Nat) (w : Int32) {k : Nat} (h : k ≠ 0) : mp I a w k = I k := by unfold mp; rw [am_up_ne h, am_up_ne h]
theorem mp_0 (I : am_I) (a : Nat) (w : Int32) {j : Nat} (h : j ≠ 3 ∧ j ≠ 4) : mp I a w 0 j = I 0 j := by unfold mp; rw [up_n h.2, up_n h.1]
theorem up_up (I : am_I) (t j : Nat) (v w : Int32) : am_up (am_up I t j v) t j w = am_up I t j w := by
  funext k i
  unfold am_up
  by_cases c : k = t
  · by_cases c2 : i = j <;> simp [c, c2, upd]
  · simp [c]
theorem up_cm (I : am_I) {t j t' j' : Nat} (v w : Int32) (h : t ≠ t' ∨ j ≠ j') : am_up (am_up I t j v) t' j' w = am_up (am_up I t' j' w) t j v := by
  funext k i
  unfold am_up
  by_cases c : k = t
  · by_cases c' : k = t'
    · subst c; subst c'
      have : j ≠ j' := h.resolve_left (fun z => z rfl)
      by_cases c2 : i = j
      · have : i ≠ j' := by omega
        simp [upd, c2]; omega
      · simp [upd, c2]
    · subst c; simp [c']
  · simp [c]
theorem up_id {I : am_I} {t j : Nat} {v : Int32} (h : I t j = v) : am_up I t j v = I := by
  funext k i
  unfold am_up
  by_cases c : k = t
  · subst c
    by_cases c2 : i = j
    · subst c2; simp [upd, h]
    · simp [upd, c2]
  · simp [c]
theorem mp_up3 (I : am_I) (a b : Nat) (w : Int32) : am_up (mp I a w) 0 3 (nI b) = mp I b w := by
  unfold mp
  rw [up_cm _ _ _ (by omega), up_up]
theorem mp_up4 (I : am_I) (a : Nat) (w v : Int32) : am_up (mp I a w) 0 4 v = mp I a v := up_up _ _ _ _ _
theorem mp_upk (I : am_I) (a : Nat) (w : Int32) {k j : Nat} (v : Int32) (h : k ≠ 0 ∨ (j ≠ 3 ∧ j ≠ 4)) : am_up (mp I a w) k j v = mp (am_up I k j v) a w := by
  unfold mp
  rw [up_cm _ _ _ (by omega), up_cm I _ _ (by omega)]
theorem mp_mp (I : am_I) (a b : Nat) (w v : Int32) : mp (mp I a w) b v = mp I b v := by
  unfold mp
  rw [up_cm (am_up I 0 3 (nI a)) _ _ (by omega), up_up, up_up]
theorem mp_self {I : am_I} {a : Nat} {w : Int32} (h3 : I 0 3 = nI a) (h4 : I 0 4 = w) : mp I a w = I := by
  unfold mp
  rw [up_id h3, up_id h4]
theorem TM_mp {I : am_I} {n : Nat} {t : Nat → Nat} (h : TM I n t) (a : Nat) (w : Int32) : TM (mp I a w) n t := by
  unfold TM at *
  rw [mp_0 _ _ _ (by omega), mp_k _ _ _ (by omega)]
  exact h
theorem pm_here {n : Nat} {t : Nat → Nat} (hG : GT n t) (f d : Nat) {I : am_I} (h : TM I n t) (L : am_L) {a : Nat} (ha : a < 1000) (w : Int32) : fX12_here f d (mp I a w) L = some (zn (bx n t a), mp I a w, L) := by
  obtain ⟨h1, h2⟩ := TM_mp h a w
  have h3 := mp_3 I a w
  have g := hG.1
  by_cases c : a < n
  · rw [bx_lt c, en_s]
    have h4 := h2 a c
    simp (disch := omega) only [fX12_here, zz_lt, li_0, li_1, li_2, li_3, li_4, li_5, li_6, li_7, li_8, li_9, li_10, li_11, li_12, li_15, li_16, li_20, li_21, li_24, li_25, li_26, li_32, li_33, li_38, li_40, li_41, li_42, li_43, li_45, li_47, li_48, li_57, li_58, li_59, li_60, li_61, li_62, li_63, li_74, li_75, li_84, li_91, li_93, li_98, li_100, li_103, li_105, li_107, li_109, li_110, li_111, li_112, li_115, li_118, li_119, li_120, li_121, li_124, li_140, li_180, li_206, li_240, li_255, li_420, li_520, li_999, li_1000, li_1771, li_8240, li_9999, li_88200, li_1000000, li_2097151, li_31, nI_add, pk_mul, zz_sub, zz_an, nI_clamp, zz_leT, zz_leF, zz_ltT, zz_ltF, zz_eqF, zz_eqT, zz_m1, zz_m2, zz_m3, zz_m4, zz_m5, zz_m6, zz_ck, zz_bl, zz_b3, zz_b2, zz_shl, zz_bt0, zz_bt1, pk_div, Nat.zero_add, Nat.add_zero, if_true, if_false, reduceIte, Nat.mul_zero, zz_or0, zz_inT, zz_inF, h1, h3, h4]
  · rw [bx_ge (by omega), en_0]
    simp (disch := omega) only [fX12_here, zz_lt, li_0, li_1, li_2, li_3, li_4, li_5, li_6, li_7, li_8, li_9, li_10, li_11, li_12, li_15, li_16, li_20, li_21, li_24, li_25, li_26, li_32, li_33, li_38, li_40, li_41, li_42, li_43, li_45, li_47, li_48, li_57, li_58, li_59, li_60, li_61, li_62, li_63, li_74, li_75, li_84, li_91, li_93, li_98, li_100, li_103, li_105, li_107, li_109, li_110, li_111, li_112, li_115, li_118, li_119, li_120, li_121, li_124, li_140, li_180, li_206, li_240, li_255, li_420, li_520, li_999, li_1000, li_1771, li_8240, li_9999, li_88200, li_1000000, li_2097151, li_31, nI_add, pk_mul, zz_sub, zz_an, nI_clamp, zz_leT, zz_leF, zz_ltT, zz_ltF, zz_eqF, zz_eqT, zz_m1, zz_m2, zz_m3, zz_m4, zz_m5, zz_m6, zz_ck, zz_bl, zz_b3, zz_b2, zz_shl, zz_bt0, zz_bt1, pk_div, Nat.zero_add, Nat.add_zero, if_true, if_false, reduceIte, Nat.mul_zero, zz_or0, zz_inT, zz_inF, h1, h3]
theorem pm_lookL {n : Nat} {t : Nat → Nat} (hG : GT n t) (f d : Nat) {I : am_I} (h : TM I n t) (L : am_L) (w : Int32) : ∀ (j a F : Nat), n - a = j → j < F → a < 1000 → fX12_look_b0 f d F (mp I a w) L = some (zn (bx n t (nb n t a)), mp I (nb n t a) w, L)
  | _, _, 0, _, fu, _ => by omega
  | 0, a, F + 1, e, fu, ha => by
    have hh := pm_here hG f d h L ha w
    rw [nb_end (by omega)]
    rw [bx_ge (by omega), en_0] at hh ⊢
    simp (disch := omega) only [fX12_look_b0, fX12_look_b0w, zz_lt, li_0, li_1, li_2, li_3, li_4, li_5, li_6, li_7, li_8, li_9, li_10, li_11, li_12, li_15, li_16, li_20, li_21, li_24, li_25, li_26, li_32, li_33, li_38, li_40, li_41, li_42, li_43, li_45, li_47, li_48, li_57, li_58, li_59, li_60, li_61, li_62, li_63, li_74, li_75, li_84, li_91, li_93, li_98, li_100, li_103, li_105, li_107, li_109, li_110, li_111, li_112, li_115, li_118, li_119, li_120, li_121, li_124, li_140, li_180, li_206, li_240, li_255, li_420, li_520, li_999, li_1000, li_1771, li_8240, li_9999, li_88200, li_1000000, li_2097151, li_31, nI_add, pk_mul, zz_sub, zz_an, nI_clamp, zz_leT, zz_leF, zz_ltT, zz_ltF, zz_eqF, zz_eqT, zz_m1, zz_m2, zz_m3, zz_m4, zz_m5, zz_m6, zz_ck, zz_bl, zz_b3, zz_b2, zz_shl, zz_bt0, zz_bt1, pk_div, Nat.zero_add, Nat.add_zero, if_true, if_false, reduceIte, Nat.mul_zero, zz_or0, zz_inT, zz_inF, hh]
  | j + 1, a, F + 1, e, fu, ha => by
    have ih := pm_lookL hG f d h L w j (a + 1) F (by omega) (by omega) (by have := hG.1; omega)
    have hh := pm_here hG f d h L ha w
    have h4 := hG.2 a (by omega)
    have h3 := mp_3 I a w
    by_cases c : t a = 32
    · rw [nb_b (by omega) c, ← ih]
      rw [bx_lt (by omega), en_s] at hh
      simp (disch := omega) only [fX12_look_b0, fX12_look_b0w, zz_lt, li_0, li_1, li_2, li_3, li_4, li_5, li_6, li_7, li_8, li_9, li_10, li_11, li_12, li_15, li_16, li_20, li_21, li_24, li_25, li_26, li_32, li_33, li_38, li_40, li_41, li_42, li_43, li_45, li_47, li_48, li_57, li_58, li_59, li_60, li_61, li_62, li_63, li_74, li_75, li_84, li_91, li_93, li_98, li_100, li_103, li_105, li_107, li_109, li_110, li_111, li_112, li_115, li_118, li_119, li_120, li_121, li_124, li_140, li_180, li_206, li_240, li_255, li_420, li_520, li_999, li_1000, li_1771, li_8240, li_9999, li_88200, li_1000000, li_2097151, li_31, nI_add, pk_mul, zz_sub, zz_an, nI_clamp, zz_leT, zz_leF, zz_ltT, zz_ltF, zz_eqF, zz_eqT, zz_m1, zz_m2, zz_m3, zz_m4, zz_m5, zz_m6, zz_ck, zz_bl, zz_b3, zz_b2, zz_shl, zz_bt0, zz_bt1, pk_div, Nat.zero_add, Nat.add_zero, if_true, if_false, reduceIte, Nat.mul_zero, zz_or0, zz_inT, zz_inF, hh, c, h3, mp_up3]
    · rw [nb_nb (fun _ => c)]
      rw [bx_lt (by omega), en_s] at hh ⊢
      simp (disch := omega) only [fX12_look_b0, fX12_look_b0w, zz_lt, li_0, li_1, li_2, li_3, li_4, li_5, li_6, li_7, li_8, li_9, li_10, li_11, li_12, li_15, li_16, li_20, li_21, li_24, li_25, li_26, li_32, li_33, li_38, li_40, li_41, li_42, li_43, li_45, li_47, li_48, li_57, li_58, li_59, li_60, li_61, li_62, li_63, li_74, li_75, li_84, li_91, li_93, li_98, li_100, li_103, li_105, li_107, li_109, li_110, li_111, li_112, li_115, li_118, li_119, li_120, li_121, li_124, li_140, li_180, li_206, li_240, li_255, li_420, li_520, li_999, li_1000, li_1771, li_8240, li_9999, li_88200, li_1000000, li_2097151, li_31, nI_add, pk_mul, zz_sub, zz_an, nI_clamp, zz_leT, zz_leF, zz_ltT, zz_ltF, zz_eqF, zz_eqT, zz_m1, zz_m2, zz_m3, zz_m4, zz_m5, zz_m6, zz_ck, zz_bl, zz_b3, zz_b2, zz_shl, zz_bt0, zz_bt1, pk_div, Nat.zero_add, Nat.add_zero, if_true, if_false, reduceIte, Nat.mul_zero, zz_or0, zz_inT, zz_inF, hh, c]
theorem pm_look {n : Nat} {t : Nat → Nat} (hG : GT n t) (f d : Nat) (hf : 300 < f) {I : am_I} (h : TM I n t) (L : am_L) (w : Int32) {a : Nat} (ha : a < 1000) : fX12_look f d (mp I a w) L = some (zn (bx n t (nb n t a)), mp I (nb n t a) w, L) := by
  unfold fX12_look
  exact pm_lookL hG f d h L w (n - a) a f rfl (by have := hG.1; omega) ha
theorem pm_bad0 (f d : Nat) (I : am_I) (L : am_L) (a : Nat) : fX12_bad f d (mp I a (-nI 1)) L = some (mp I a (nI a), L) := by
  have h4 := mp_4 I a (-nI 1)
  have h3 := mp_3 I a (-nI 1)
  simp (disch := omega) only [fX12_bad, fX12_bad_b20, zz_lt, li_0, li_1, li_2, li_3, li_4, li_5, li_6, li_7, li_8, li_9, li_10, li_11, li_12, li_15, li_16, li_20, li_21, li_24, li_25, li_26, li_32, li_33, li_38, li_40, li_41, li_42, li_43, li_45, li_47, li_48, li_57, li_58, li_59, li_60, li_61, li_62, li_63, li_74, li_75, li_84, li_91, li_93, li_98, li_100, li_103, li_105, li_107, li_109, li_110, li_111, li_112, li_115, li_118, li_119, li_120, li_121, li_124, li_140, li_180, li_206, li_240, li_255, li_420, li_520, li_999, li_1000, li_1771, li_8240, li_9999, li_88200, li_1000000, li_2097151, li_31, nI_add, pk_mul, zz_sub, zz_an, nI_clamp, zz_leT, zz_leF, zz_ltT, zz_ltF, zz_eqF, zz_eqT, zz_m1, zz_m2, zz_m3, zz_m4, zz_m5, zz_m6, zz_ck, zz_bl, zz_b3, zz_b2, zz_shl, zz_bt0, zz_bt1, pk_div, Nat.zero_add, Nat.add_zero, if_true, if_false, reduceIte, Nat.mul_zero, zz_or0, zz_inT, zz_inF, h4, h3, mp_up4]
theorem pm_bad1 (f d : Nat) (I : am_I) (L : am_L) (a : Nat) {b : Nat} (hb : b < 1000) : fX12_bad f d (mp I a (nI b)) L = some (mp I a (nI b), L) := by
  have h4 := mp_4 I a (nI b)
  simp (disch := omega) only [fX12_bad, fX12_bad_b20, zz_lt, li_0, li_1, li_2, li_3, li_4, li_5, li_6, li_7, li_8, li_9, li_10, li_11, li_12, li_15, li_16, li_20, li_21, li_24, li_25, li_26, li_32, li_33, li_38, li_40, li_41, li_42, li_43, li_45, li_47, li_48, li_57, li_58, li_59, li_60, li_61, li_62, li_63, li_74, li_75, li_84, li_91, li_93, li_98, li_100, li_103, li_105, li_107, li_109, li_110, li_111, li_112, li_115, li_118, li_119, li_120, li_121, li_124, li_140, li_180, li_206, li_240, li_255, li_420, li_520, li_999, li_1000, li_1771, li_8240, li_9999, li_88200, li_1000000, li_2097151, li_31, nI_add, pk_mul, zz_sub, zz_an, nI_clamp, zz_leT, zz_leF, zz_ltT, zz_ltF, zz_eqF, zz_eqT, zz_m1, zz_m2, zz_m3, zz_m4, zz_m5, zz_m6, zz_ck, zz_bl, zz_b3, zz_b2, zz_shl, zz_bt0, zz_bt1, pk_div, Nat.zero_add, Nat.add_zero, if_true, if_false, reduceIte, Nat.mul_zero, zz_or0, zz_inT, zz_inF, h4, mp_up4]
theorem pm_dg {n : Nat} {t : Nat → Nat} (hG : GT n t) (f d : Nat) (I : am_I) (L : am_L) (i : Nat) : fX12_isDigit f d (zn (bx n t i)) I L = some (nI (dg n t i).toNat, I, L) := by
  have bl := bx_le hG i
  unfold dg
  rcases hb : bx n t i with _ | b
  · rw [en_0]
    simp (disch := omega) only [fX12_isDigit, zz_lt, li_0, li_1, li_2, li_3, li_4, li_5, li_6, li_7, li_8, li_9, li_10, li_11, li_12, li_15, li_16, li_20, li_21, li_24, li_25, li_26, li_32, li_33, li_38, li_40, li_41, li_42, li_43, li_45, li_47, li_48, li_57, li_58, li_59, li_60, li_61, li_62, li_63, li_74, li_75, li_84, li_91, li_93, li_98, li_100, li_103, li_105, li_107, li_109, li_110, li_111, li_112, li_115, li_118, li_119, li_120, li_121, li_124, li_140, li_180, li_206, li_240, li_255, li_420, li_520, li_999, li_1000, li_1771, li_8240, li_9999, li_88200, li_1000000, li_2097151, li_31, nI_add, pk_mul, zz_sub, zz_an, nI_clamp, zz_leT, zz_leF, zz_ltT, zz_ltF, zz_eqF, zz_eqT, zz_m1, zz_m2, zz_m3, zz_m4, zz_m5, zz_m6, zz_ck, zz_bl, zz_b3, zz_b2, zz_shl, zz_bt0, zz_bt1, pk_div, Nat.zero_add, Nat.add_zero, if_true, if_false, reduceIte, Nat.mul_zero, zz_or0, zz_inT, zz_inF, show (-nI 1 < nI 48) = True from by decide, show decide (49 ≤ 0 ∧ 0 ≤ 58) = false from rfl, Bool.toNat_false]
  · rw [en_s]
    rw [hb] at bl
    by_cases c1 : b < 48
    · rw [decide_eq_false (by omega)]
      simp (disch := omega) only [fX12_isDigit, zz_lt, li_0, li_1, li_2, li_3, li_4, li_5, li_6, li_7, li_8, li_9, li_10, li_11, li_12, li_15, li_16, li_20, li_21, li_24, li_25, li_26, li_32, li_33, li_38, li_40, li_41, li_42, li_43, li_45, li_47, li_48, li_57, li_58, li_59, li_60, li_61, li_62, li_63, li_74, li_75, li_84, li_91, li_93, li_98, li_100, li_103, li_105, li_107, li_109, li_110, li_111, li_112, li_115, li_118, li_119, li_120, li_121, li_124, li_140, li_180, li_206, li_240, li_255, li_420, li_520, li_999, li_1000, li_1771, li_8240, li_9999, li_88200, li_1000000, li_2097151, li_31, nI_add, pk_mul, zz_sub, zz_an, nI_clamp, zz_leT, zz_leF, zz_ltT, zz_ltF, zz_eqF, zz_eqT, zz_m1, zz_m2, zz_m3, zz_m4, zz_m5, zz_m6, zz_ck, zz_bl, zz_b3, zz_b2, zz_shl, zz_bt0, zz_bt1, pk_div, Nat.zero_add, Nat.add_zero, if_true, if_false, reduceIte, Nat.mul_zero, zz_or0, zz_inT, zz_inF, Bool.toNat_false]
    · by_cases c2 : 57 < b
      · rw [decide_eq_false (by omega)]
        simp (disch := omega) only [fX12_isDigit, zz_lt, li_0, li_1, li_2, li_3, li_4, li_5, li_6, li_7, li_8, li_9, li_10, li_11, li_12, li_15, li_16, li_20, li_21, li_24, li_25, li_26, li_32, li_33, li_38, li_40, li_41, li_42, li_43, li_45, li_47, li_48, li_57, li_58, li_59, li_60, li_61, li_62, li_63, li_74, li_75, li_84, li_91, li_93, li_98, li_100, li_103, li_105, li_107, li_109, li_110, li_111, li_112, li_115, li_118, li_119, li_120, li_121, li_124, li_140, li_180, li_206, li_240, li_255, li_420, li_520, li_999, li_1000, li_1771, li_8240, li_9999, li_88200, li_1000000, li_2097151, li_31, nI_add, pk_mul, zz_sub, zz_an, nI_clamp, zz_leT, zz_leF, zz_ltT, zz_ltF, zz_eqF, zz_eqT, zz_m1, zz_m2, zz_m3, zz_m4, zz_m5, zz_m6, zz_ck, zz_bl, zz_b3, zz_b2, zz_shl, zz_bt0, zz_bt1, pk_div, Nat.zero_add, Nat.add_zero, if_true, if_false, reduceIte, Nat.mul_zero, zz_or0, zz_inT, zz_inF, Bool.toNat_false]
      · rw [decide_eq_true (by omega)]
        simp (disch := omega) only [fX12_isDigit, zz_lt, li_0, li_1, li_2, li_3, li_4, li_5, li_6, li_7, li_8, li_9, li_10, li_11, li_12, li_15, li_16, li_20, li_21, li_24, li_25, li_26, li_32, li_33, li_38, li_40, li_41, li_42, li_43, li_45, li_47, li_48, li_57, li_58, li_59, li_60, li_61, li_62, li_63, li_74, li_75, li_84, li_91, li_93, li_98, li_100, li_103, li_105, li_107, li_109, li_110, li_111, li_112, li_115, li_118, li_119, li_120, li_121, li_124, li_140, li_180, li_206, li_240, li_255, li_420, li_520, li_999, li_1000, li_1771, li_8240, li_9999, li_88200, li_1000000, li_2097151, li_31, nI_add, pk_mul, zz_sub, zz_an, nI_clamp, zz_leT, zz_leF, zz_ltT, zz_ltF, zz_eqF, zz_eqT, zz_m1, zz_m2, zz_m3, zz_m4, zz_m5, zz_m6, zz_ck, zz_bl, zz_b3, zz_b2, zz_shl, zz_bt0, zz_bt1, pk_div, Nat.zero_add, Nat.add_zero, if_true, if_false, reduceIte, Nat.mul_zero, zz_or0, zz_inT, zz_inF, Bool.toNat_true]
/-- letters -/
def ixl (l : Nat → Int32) (v : Int32) : Nat → Nat → Int32
  | 0, _ => -nI 1
  | j + 1, i => if l i = v then nI i else ixl l v j (i + 1)
theorem ix10L (f d : Nat) (I : am_I) (L : am_L) (v : Int32) : ∀ (j i F : Nat), i + j = 10 → j < F → fJ1_indexOfChar_4cfef_k11_b7 f d F (nI 10) v (nI i) I L = some (ixl (fun j => (am_by.getD 0 []).getD j (nI 0)) v j i, I, L)
  | _, _, 0, _, fu => by omega
  | 0, i, F + 1, e, fu => by
    have e1 : i = 10 := by omega
    simp (disch := omega) only [fJ1_indexOfChar_4cfef_k11_b7, fJ1_indexOfChar_4cfef_k11_b7w, zz_lt, li_0, li_1, li_2, li_3, li_4, li_5, li_6, li_7, li_8, li_9, li_10, li_11, li_12, li_15, li_16, li_20, li_21, li_24, li_25, li_26, li_32, li_33, li_38, li_40, li_41, li_42, li_43, li_45, li_47, li_48, li_57, li_58, li_59, li_60, li_61, li_62, li_63, li_74, li_75, li_84, li_91, li_93, li_98, li_100, li_103, li_105, li_107, li_109, li_110, li_111, li_112, li_115, li_118, li_119, li_120, li_121, li_124, li_140, li_180, li_206, li_240, li_255, li_420, li_520, li_999, li_1000, li_1771, li_8240, li_9999, li_88200, li_1000000, li_2097151, li_31, nI_add, pk_mul, zz_sub, zz_an, nI_clamp, zz_leT, zz_leF, zz_ltT, zz_ltF, zz_eqF, zz_eqT, zz_m1, zz_m2, zz_m3, zz_m4, zz_m5, zz_m6, zz_ck, zz_bl, zz_b3, zz_b2, zz_shl, zz_bt0, zz_bt1, pk_div, Nat.zero_add, Nat.add_zero, if_true, if_false, reduceIte, Nat.mul_zero, zz_or0, zz_inT, zz_inF, ixl]
  | j + 1, i, F + 1, e, fu => by
    have ih := ix10L f d I L v j (i + 1) F (by omega) (by omega)
    by_cases c : (am_by.getD 0 []).getD i (nI 0) = v
    · simp (disch := omega) only [fJ1_indexOfChar_4cfef_k11_b7, fJ1_indexOfChar_4cfef_k11_b7w, zz_lt, li_0, li_1, li_2, li_3, li_4, li_5, li_6, li_7, li_8, li_9, li_10, li_11, li_12, li_15, li_16, li_20, li_21, li_24, li_25, li_26, li_32, li_33, li_38, li_40, li_41, li_42, li_43, li_45, li_47, li_48, li_57, li_58, li_59, li_60, li_61, li_62, li_63, li_74, li_75, li_84, li_91, li_93, li_98, li_100, li_103, li_105, li_107, li_109, li_110, li_111, li_112, li_115, li_118, li_119, li_120, li_121, li_124, li_140, li_180, li_206, li_240, li_255, li_420, li_520, li_999, li_1000, li_1771, li_8240, li_9999, li_88200, li_1000000, li_2097151, li_31, nI_add, pk_mul, zz_sub, zz_an, nI_clamp, zz_leT, zz_leF, zz_ltT, zz_ltF, zz_eqF, zz_eqT, zz_m1, zz_m2, zz_m3, zz_m4, zz_m5, zz_m6, zz_ck, zz_bl, zz_b3, zz_b2, zz_shl, zz_bt0, zz_bt1, pk_div, Nat.zero_add, Nat.add_zero, if_true, if_false, reduceIte, Nat.mul_zero, zz_or0, zz_inT, zz_inF, ixl, c]
    · simp (disch := omega) only [fJ1_indexOfChar_4cfef_k11_b7, fJ1_indexOfChar_4cfef_k11_b7w, zz_lt, li_0, li_1, li_2, li_3, li_4, li_5, li_6, li_7, li_8, li_9, li_10, li_11, li_12, li_15, li_16, li_20, li_21, li_24, li_25, li_26, li_32, li_33, li_38, li_40, li_41, li_42, li_43, li_45, li_47, li_48, li_57, li_58, li_59, li_60, li_61, li_62, li_63, li_74, li_75, li_84, li_91, li_93, li_98, li_100, li_103, li_105, li_107, li_109, li_110, li_111, li_112, li_115, li_118, li_119, li_120, li_121, li_124, li_140, li_180, li_206, li_240, li_255, li_420, li_520, li_999, li_1000, li_1771, li_8240, li_9999, li_88200, li_1000000, li_2097151, li_31, nI_add, pk_mul, zz_sub, zz_an, nI_clamp, zz_leT, zz_leF, zz_ltT, zz_ltF, zz_eqF, zz_eqT, zz_m1, zz_m2, zz_m3, zz_m4, zz_m5, zz_m6, zz_ck, zz_bl, zz_b3, zz_b2, zz_shl, zz_bt0, zz_bt1, pk_div, Nat.zero_add, Nat.add_zero, if_true, if_false, reduceIte, Nat.mul_zero, zz_or0, zz_inT, zz_inF, ixl, c]
      exact ih
theorem ix6L (f d : Nat) (I : am_I) (L : am_L) (v : Int32) : ∀ (j i F : Nat), i + j = 6 → j < F → fJ1_indexOfChar_4cfef_k13_b7 f d F (nI 6) v (nI i) I L = some (ixl (fun j => (am_by.getD 1 []).getD j (nI 0)) v j i, I, L)
  | _, _, 0, _, fu => by omega
  | 0, i, F + 1, e, fu => by
    have e1 : i = 6 := by omega
    simp (disch := omega) only [fJ1_indexOfChar_4cfef_k13_b7, fJ1_indexOfChar_4cfef_k13_b7w, zz_lt, li_0, li_1, li_2, li_3, li_4, li_5, li_6, li_7, li_8, li_9, li_10, li_11, li_12, li_15, li_16, li_20, li_21, li_24, li_25, li_26, li_32, li_33, li_38, li_40, li_41, li_42, li_43, li_45, li_47, li_48, li_57, li_58, li_59, li_60, li_61, li_62, li_63, li_74, li_75, li_84, li_91, li_93, li_98, li_100, li_103, li_105, li_107, li_109, li_110, li_111, li_112, li_115, li_118, li_119, li_120, li_121, li_124, li_140, li_180, li_206, li_240, li_255, li_420, li_520, li_999, li_1000, li_1771, li_8240, li_9999, li_88200, li_1000000, li_2097151, li_31, nI_add, pk_mul, zz_sub, zz_an, nI_clamp, zz_leT, zz_leF, zz_ltT, zz_ltF, zz_eqF, zz_eqT, zz_m1, zz_m2, zz_m3, zz_m4, zz_m5, zz_m6, zz_ck, zz_bl, zz_b3, zz_b2, zz_shl, zz_bt0, zz_bt1, pk_div, Nat.zero_add, Nat.add_zero, if_true, if_false, reduceIte, Nat.mul_zero, zz_or0, zz_inT, zz_inF, ixl]
  | j + 1, i, F + 1, e, fu => by
    have ih := ix6L f d I L v j (i + 1) F (by omega) (by omega)
    by_cases c : (am_by.getD 1 []).getD i (nI 0) = v
    · simp (disch := omega) only [fJ1_indexOfChar_4cfef_k13_b7, fJ1_indexOfChar_4cfef_k13_b7w, zz_lt, li_0, li_1, li_2, li_3, li_4, li_5, li_6, li_7, li_8, li_9, li_10, li_11, li_12, li_15, li_16, li_20, li_21, li_24, li_25, li_26, li_32, li_33, li_38, li_40, li_41, li_42, li_43, li_45, li_47, li_48, li_57, li_58, li_59, li_60, li_61, li_62, li_63, li_74, li_75, li_84, li_91, li_93, li_98, li_100, li_103, li_105, li_107, li_109, li_110, li_111, li_112, li_115, li_118, li_119, li_120, li_121, li_124, li_140, li_180, li_206, li_240, li_255, li_420, li_520, li_999, li_1000, li_1771, li_8240, li_9999, li_88200, li_1000000, li_2097151, li_31, nI_add, pk_mul, zz_sub, zz_an, nI_clamp, zz_leT, zz_leF, zz_ltT, zz_ltF, zz_eqF, zz_eqT, zz_m1, zz_m2, zz_m3, zz_m4, zz_m5, zz_m6, zz_ck, zz_bl, zz_b3, zz_b2, zz_shl, zz_bt0, zz_bt1, pk_div, Nat.zero_add, Nat.add_zero, if_true, if_false, reduceIte, Nat.mul_zero, zz_or0, zz_inT, zz_inF, ixl, c]
    · simp (disch := omega) only [fJ1_indexOfChar_4cfef_k13_b7, fJ1_indexOfChar_4cfef_k13_b7w, zz_lt, li_0, li_1, li_2, li_3, li_4, li_5, li_6, li_7, li_8, li_9, li_10, li_11, li_12, li_15, li_16, li_20, li_21, li_24, li_25, li_26, li_32, li_33, li_38, li_40, li_41, li_42, li_43, li_45, li_47, li_48, li_57, li_58, li_59, li_60, li_61, li_62, li_63, li_74, li_75, li_84, li_91, li_93, li_98, li_100, li_103, li_105, li_107, li_109, li_110, li_111, li_112, li_115, li_118, li_119, li_120, li_121, li_124, li_140, li_180, li_206, li_240, li_255, li_420, li_520, li_999, li_1000, li_1771, li_8240, li_9999, li_88200, li_1000000, li_2097151, li_31, nI_add, pk_mul, zz_sub, zz_an, nI_clamp, zz_leT, zz_leF, zz_ltT, zz_ltF, zz_eqF, zz_eqT, zz_m1, zz_m2, zz_m3, zz_m4, zz_m5, zz_m6, zz_ck, zz_bl, zz_b3, zz_b2, zz_shl, zz_bt0, zz_bt1, pk_div, Nat.zero_add, Nat.add_zero, if_true, if_false, reduceIte, Nat.mul_zero, zz_or0, zz_inT, zz_inF, ixl, c]
      exact ih
/-- the place of a letter among those of a war's items, with 1 more; of a law's letters -/
def io10 (b : Nat) : Nat := match b with | 115 => 1 | 100 => 2 | 118 => 3 | 98 => 4 | 110 => 5 | 105 => 6 | 107 => 7 | 120 => 8 | 112 => 9 | 103 => 10 | _ => 0
def io6 (b : Nat) : Nat := match b with | 100 => 1 | 98 => 2 | 110 => 3 | 105 => 4 | 121 => 5 | 115 => 6 | _ => 0
theorem io10_t : ∀ b, b < 256 → ixl (fun j => (am_by.getD 0 []).getD j (nI 0)) (nI b).toInt8.toInt32 10 0 = zn (io10 b) := by decide +kernel
theorem io6_t : ∀ b, b < 256 → ixl (fun j => (am_by.getD 1 []).getD j (nI 0)) (nI b).toInt8.toInt32 6 0 = zn (io6 b) := by decide +kernel
theorem ch_id {b : Nat} (h : b < 65536) : ((nI b).toUInt32 % 65536).toInt32 = nI b := by rw [pk_char, pk_tn (by omega), Nat.mod_eq_of_lt h]
theorem sh_10 : (10 : Int32) >>> ((0 : Int32) &&& 31) = nI 10 := by decide
theorem sh_6 : (6 : Int32) >>> ((0 : Int32) &&& 31) = nI 6 := by decide
theorem pc_ix10 (f d : Nat) (hf : 20 < f) (I : am_I) (L : am_L) {b : Nat} (hb : b < 256) : fJ0_indexOf_0f7a4_k10 f d (nI b) I L = some (zn (io10 b), I, L) := by
  have lp := ix10L f d I L (nI b).toInt8.toInt32 10 0 f (by omega) (by omega)
  rw [io10_t b hb] at lp
  have ic : fJ1_indexOfChar_4cfef_k11 f d (nI b) (nI 0) (nI 10) I L = some (zn (io10 b), I, L) := by
    unfold fJ1_indexOfChar_4cfef_k11
    rw [zz_lt, zz_lt]
    exact lp
  have ce : fJ1_canEncode_9a6ad f d (nI b) I L = some (nI 1, I, L) := by simp (disch := omega) only [fJ1_canEncode_9a6ad, zz_lt, li_0, li_1, li_2, li_3, li_4, li_5, li_6, li_7, li_8, li_9, li_10, li_11, li_12, li_15, li_16, li_20, li_21, li_24, li_25, li_26, li_32, li_33, li_38, li_40, li_41, li_42, li_43, li_45, li_47, li_48, li_57, li_58, li_59, li_60, li_61, li_62, li_63, li_74, li_75, li_84, li_91, li_93, li_98, li_100, li_103, li_105, li_107, li_109, li_110, li_111, li_112, li_115, li_118, li_119, li_120, li_121, li_124, li_140, li_180, li_206, li_240, li_255, li_420, li_520, li_999, li_1000, li_1771, li_8240, li_9999, li_88200, li_1000000, li_2097151, li_31, nI_add, pk_mul, zz_sub, zz_an, nI_clamp, zz_leT, zz_leF, zz_ltT, zz_ltF, zz_eqF, zz_eqT, zz_m1, zz_m2, zz_m3, zz_m4, zz_m5, zz_m6, zz_ck, zz_bl, zz_b3, zz_b2, zz_shl, zz_bt0, zz_bt1, pk_div, Nat.zero_add, Nat.add_zero, if_true, if_false, reduceIte, Nat.mul_zero, zz_or0, zz_inT, zz_inF]
  have jm := J_max f d 0 0 I L (by omega) (by omega)
  have jn := J_min f d 10 10 I L (by omega) (by omega)
  have io : fJ1_indexOf_4cfef_k11 f d (nI b) (nI 0) (nI 10) I L = some (zn (io10 b), I, L) := by
    simp (disch := omega) only [fJ1_indexOf_4cfef_k11, zz_lt, li_0, li_1, li_2, li_3, li_4, li_5, li_6, li_7, li_8, li_9, li_10, li_11, li_12, li_15, li_16, li_20, li_21, li_24, li_25, li_26, li_32, li_33, li_38, li_40, li_41, li_42, li_43, li_45, li_47, li_48, li_57, li_58, li_59, li_60, li_61, li_62, li_63, li_74, li_75, li_84, li_91, li_93, li_98, li_100, li_103, li_105, li_107, li_109, li_110, li_111, li_112, li_115, li_118, li_119, li_120, li_121, li_124, li_140, li_180, li_206, li_240, li_255, li_420, li_520, li_999, li_1000, li_1771, li_8240, li_9999, li_88200, li_1000000, li_2097151, li_31, nI_add, pk_mul, zz_sub, zz_an, nI_clamp, zz_leT, zz_leF, zz_ltT, zz_ltF, zz_eqF, zz_eqT, zz_m1, zz_m2, zz_m3, zz_m4, zz_m5, zz_m6, zz_ck, zz_bl, zz_b3, zz_b2, zz_shl, zz_bt0, zz_bt1, pk_div, Nat.zero_add, Nat.add_zero, if_true, if_false, reduceIte, Nat.mul_zero, zz_or0, zz_inT, zz_inF, ce, jm, jn, Nat.max_self, Nat.min_self, ic]
  have ln : fJ0_length_8abf5_k10 f d I L = some (nI 10, I, L) := by
    unfold fJ0_length_8abf5_k10 fJ0_coder_7d493_k10
    rw [if_neg (by decide), zz_b3, sh_10]
  have la : fJ0_isLatin1_aae02_k10 f d I L = some (nI 1, I, L) := by
    unfold fJ0_isLatin1_aae02_k10
    rw [if_neg (by decide), if_pos rfl]; rfl
  simp (disch := omega) only [fJ0_indexOf_0f7a4_k10, fJ0_indexOf_7cf53_k10, zz_lt, li_0, li_1, li_2, li_3, li_4, li_5, li_6, li_7, li_8, li_9, li_10, li_11, li_12, li_15, li_16, li_20, li_21, li_24, li_25, li_26, li_32, li_33, li_38, li_40, li_41, li_42, li_43, li_45, li_47, li_48, li_57, li_58, li_59, li_60, li_61, li_62, li_63, li_74, li_75, li_84, li_91, li_93, li_98, li_100, li_103, li_105, li_107, li_109, li_110, li_111, li_112, li_115, li_118, li_119, li_120, li_121, li_124, li_140, li_180, li_206, li_240, li_255, li_420, li_520, li_999, li_1000, li_1771, li_8240, li_9999, li_88200, li_1000000, li_2097151, li_31, nI_add, pk_mul, zz_sub, zz_an, nI_clamp, zz_leT, zz_leF, zz_ltT, zz_ltF, zz_eqF, zz_eqT, zz_m1, zz_m2, zz_m3, zz_m4, zz_m5, zz_m6, zz_ck, zz_bl, zz_b3, zz_b2, zz_shl, zz_bt0, zz_bt1, pk_div, Nat.zero_add, Nat.add_zero, if_true, if_false, reduceIte, Nat.mul_zero, zz_or0, zz_inT, zz_inF, la, ln, io]
theorem pc_ix6 (f d : Nat) (hf : 20 < f) (I : am_I) (L : am_L) {b : Nat} (hb : b < 256) : fJ0_indexOf_0f7a4_k12 f d (nI b) I L = some (zn (io6 b), I, L) := by
  have lp := ix6L f d I L (nI b).toInt8.toInt32 6 0 f (by omega) (by omega)
  rw [io6_t b hb] at lp
  have ic : fJ1_indexOfChar_4cfef_k13 f d (nI b) (nI 0) (nI 6) I L = some (zn (io6 b), I, L) := by
    unfold fJ1_indexOfChar_4cfef_k13
    rw [zz_lt, zz_lt]
    exact lp
  have ce : fJ1_canEncode_9a6ad f d (nI b) I L = some (nI 1, I, L) := by simp (disch := omega) only [fJ1_canEncode_9a6ad, zz_lt, li_0, li_1, li_2, li_3, li_4, li_5, li_6, li_7, li_8, li_9, li_10, li_11, li_12, li_15, li_16, li_20, li_21, li_24, li_25, li_26, li_32, li_33, li_38, li_40, li_41, li_42, li_43, li_45, li_47, li_48, li_57, li_58, li_59, li_60, li_61, li_62, li_63, li_74, li_75, li_84, li_91, li_93, li_98, li_100, li_103, li_105, li_107, li_109, li_110, li_111, li_112, li_115, li_118, li_119, li_120, li_121, li_124, li_140, li_180, li_206, li_240, li_255, li_420, li_520, li_999, li_1000, li_1771, li_8240, li_9999, li_88200, li_1000000, li_2097151, li_31, nI_add, pk_mul, zz_sub, zz_an, nI_clamp, zz_leT, zz_leF, zz_ltT, zz_ltF, zz_eqF, zz_eqT, zz_m1, zz_m2, zz_m3, zz_m4, zz_m5, zz_m6, zz_ck, zz_bl, zz_b3, zz_b2, zz_shl, zz_bt0, zz_bt1, pk_div, Nat.zero_add, Nat.add_zero, if_true, if_false, reduceIte, Nat.mul_zero, zz_or0, zz_inT, zz_inF]
  have jm := J_max f d 0 0 I L (by omega) (by omega)
  have jn := J_min f d 6 6 I L (by omega) (by omega)
  have io : fJ1_indexOf_4cfef_k13 f d (nI b) (nI 0) (nI 6) I L = some (zn (io6 b), I, L) := by
    simp (disch := omega) only [fJ1_indexOf_4cfef_k13, zz_lt, li_0, li_1, li_2, li_3, li_4, li_5, li_6, li_7, li_8, li_9, li_10, li_11, li_12, li_15, li_16, li_20, li_21, li_24, li_25, li_26, li_32, li_33, li_38, li_40, li_41, li_42, li_43, li_45, li_47, li_48, li_57, li_58, li_59, li_60, li_61, li_62, li_63, li_74, li_75, li_84, li_91, li_93, li_98, li_100, li_103, li_105, li_107, li_109, li_110, li_111, li_112, li_115, li_118, li_119, li_120, li_121, li_124, li_140, li_180, li_206, li_240, li_255, li_420, li_520, li_999, li_1000, li_1771, li_8240, li_9999, li_88200, li_1000000, li_2097151, li_31, nI_add, pk_mul, zz_sub, zz_an, nI_clamp, zz_leT, zz_leF, zz_ltT, zz_ltF, zz_eqF, zz_eqT, zz_m1, zz_m2, zz_m3, zz_m4, zz_m5, zz_m6, zz_ck, zz_bl, zz_b3, zz_b2, zz_shl, zz_bt0, zz_bt1, pk_div, Nat.zero_add, Nat.add_zero, if_true, if_false, reduceIte, Nat.mul_zero, zz_or0, zz_inT, zz_inF, ce, jm, jn, Nat.max_self, Nat.min_self, ic]
  have ln : fJ0_length_8abf5_k12 f d I L = some (nI 6, I, L) := by
    unfold fJ0_length_8abf5_k12 fJ0_coder_7d493_k12
    rw [if_neg (by decide), zz_b3, sh_6]
  have la : fJ0_isLatin1_aae02_k12 f d I L = some (nI 1, I, L) := by
    unfold fJ0_isLatin1_aae02_k12
    rw [if_neg (by decide), if_pos rfl]; rfl
  simp (disch := omega) only [fJ0_indexOf_0f7a4_k12, fJ0_indexOf_7cf53_k12, zz_lt, li_0, li_1, li_2, li_3, li_4, li_5, li_6, li_7, li_8, li_9, li_10, li_11, li_12, li_15, li_16, li_20, li_21, li_24, li_25, li_26, li_32, li_33, li_38, li_40, li_41, li_42, li_43, li_45, li_47, li_48, li_57, li_58, li_59, li_60, li_61, li_62, li_63, li_74, li_75, li_84, li_91, li_93, li_98, li_100, li_103, li_105, li_107, li_109, li_110, li_111, li_112, li_115, li_118, li_119, li_120, li_121, li_124, li_140, li_180, li_206, li_240, li_255, li_420, li_520, li_999, li_1000, li_1771, li_8240, li_9999, li_88200, li_1000000, li_2097151, li_31, nI_add, pk_mul, zz_sub, zz_an, nI_clamp, zz_leT, zz_leF, zz_ltT, zz_ltF, zz_eqF, zz_eqT, zz_m1, zz_m2, zz_m3, zz_m4, zz_m5, zz_m6, zz_ck, zz_bl, zz_b3, zz_b2, zz_shl, zz_bt0, zz_bt1, pk_div, Nat.zero_add, Nat.add_zero, if_true, if_false, reduceIte, Nat.mul_zero, zz_or0, zz_inT, zz_inF, la, ln, io]
