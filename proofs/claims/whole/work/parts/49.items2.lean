/-! PURE: the items of a clause, on both sides. -/
/-- which item of a clause a sign is, with 1 more -/
def itR (β cnt x : Nat) : Nat := if x = 0 then 0 else if β + 1 ≤ io10 (x - 1) ∧ io10 (x - 1) ≤ β + cnt then io10 (x - 1) - β else 0
theorem io10_le : ∀ b, b < 256 → io10 b ≤ 10 := by decide +kernel
/-- the class's items, a sign at a time -/
theorem cl_end {n : Nat} {t : Nat → Nat} (hG : GT n t) (f d : Nat) {I : am_I} (h : TC I n t) (L : am_L) (a1 a2 : Int32) {c p : Nat} (hc : c ≤ 240) (hp : p ≤ n) (he : p < n → t p = 59) (F : Nat) : fX10_readItems_b21 f d (F + 1) a1 a2 (nI c) (cq I p) L = some (nI 1, cq I p, L) := by
  have g := hG.1
  have h4 := cq_4 I p
  have a := pc_at hG f d (TC_cq h p) L (i := p) (by omega)
  by_cases c1 : p < n
  · rw [bx_lt c1, en_s, he c1] at a
    simp (disch := omega) only [fX10_readItems_b21, fX10_readItems_b21w, zz_lt, li_0, li_1, li_2, li_3, li_4, li_5, li_6, li_7, li_8, li_9, li_10, li_11, li_12, li_15, li_16, li_20, li_21, li_24, li_25, li_26, li_32, li_33, li_38, li_40, li_41, li_42, li_43, li_45, li_47, li_48, li_57, li_58, li_59, li_60, li_61, li_62, li_63, li_74, li_75, li_84, li_91, li_93, li_98, li_100, li_103, li_105, li_107, li_109, li_110, li_111, li_112, li_115, li_118, li_119, li_120, li_121, li_124, li_140, li_180, li_206, li_240, li_255, li_420, li_520, li_999, li_1000, li_1771, li_8240, li_9999, li_88200, li_1000000, li_2097151, li_31, nI_add, pk_mul, zz_sub, zz_an, nI_clamp, zz_leT, zz_leF, zz_ltT, zz_ltF, zz_eqF, zz_eqT, zz_m1, zz_m2, zz_m3, zz_m4, zz_m5, zz_m6, zz_ck, zz_bl, zz_b3, zz_b2, zz_shl, zz_bt0, zz_bt1, pk_div, Nat.zero_add, Nat.add_zero, if_true, if_false, reduceIte, Nat.mul_zero, zz_or0, zz_inT, zz_inF, h4, a]
  · rw [bx_ge (by omega), en_0] at a
    simp (disch := omega) only [fX10_readItems_b21, fX10_readItems_b21w, zz_lt, li_0, li_1, li_2, li_3, li_4, li_5, li_6, li_7, li_8, li_9, li_10, li_11, li_12, li_15, li_16, li_20, li_21, li_24, li_25, li_26, li_32, li_33, li_38, li_40, li_41, li_42, li_43, li_45, li_47, li_48, li_57, li_58, li_59, li_60, li_61, li_62, li_63, li_74, li_75, li_84, li_91, li_93, li_98, li_100, li_103, li_105, li_107, li_109, li_110, li_111, li_112, li_115, li_118, li_119, li_120, li_121, li_124, li_140, li_180, li_206, li_240, li_255, li_420, li_520, li_999, li_1000, li_1771, li_8240, li_9999, li_88200, li_1000000, li_2097151, li_31, nI_add, pk_mul, zz_sub, zz_an, nI_clamp, zz_leT, zz_leF, zz_ltT, zz_ltF, zz_eqF, zz_eqT, zz_m1, zz_m2, zz_m3, zz_m4, zz_m5, zz_m6, zz_ck, zz_bl, zz_b3, zz_b2, zz_shl, zz_bt0, zz_bt1, pk_div, Nat.zero_add, Nat.add_zero, if_true, if_false, reduceIte, Nat.mul_zero, zz_or0, zz_inT, zz_inF, h4, a]
theorem cl_out {n : Nat} {t : Nat → Nat} (hG : GT n t) (f d : Nat) (hf : 300 < f) {I : am_I} (h : TC I n t) (L : am_L) {β cnt c p : Nat} (hb : β + cnt ≤ 10) (hc : c ≤ 240) (hp : p < n) (h59 : t p ≠ 59) (ho : ¬ (β + 1 ≤ io10 (t p) ∧ io10 (t p) ≤ β + cnt)) (F : Nat) : fX10_readItems_b21 f d (F + 1) (nI β) (nI (β + cnt)) (nI c) (cq I p) L = some (nI 0, cq I p, L) := by
  have g := hG.1
  have g2 := hG.2 p hp
  have h4 := cq_4 I p
  have a := pc_at hG f d (TC_cq h p) L (i := p) (by omega)
  rw [bx_lt hp, en_s] at a
  have ci := ch_id (b := t p) (by omega)
  have ix := pc_ix10 f d (by omega) (cq I p) L (b := t p) (by omega)
  have il := io10_le (t p) (by omega)
  rcases hi : io10 (t p) with _ | i
  · rw [hi, en_0] at ix
    simp (disch := omega) only [fX10_readItems_b21, fX10_readItems_b21w, zz_lt, li_0, li_1, li_2, li_3, li_4, li_5, li_6, li_7, li_8, li_9, li_10, li_11, li_12, li_15, li_16, li_20, li_21, li_24, li_25, li_26, li_32, li_33, li_38, li_40, li_41, li_42, li_43, li_45, li_47, li_48, li_57, li_58, li_59, li_60, li_61, li_62, li_63, li_74, li_75, li_84, li_91, li_93, li_98, li_100, li_103, li_105, li_107, li_109, li_110, li_111, li_112, li_115, li_118, li_119, li_120, li_121, li_124, li_140, li_180, li_206, li_240, li_255, li_420, li_520, li_999, li_1000, li_1771, li_8240, li_9999, li_88200, li_1000000, li_2097151, li_31, nI_add, pk_mul, zz_sub, zz_an, nI_clamp, zz_leT, zz_leF, zz_ltT, zz_ltF, zz_eqF, zz_eqT, zz_m1, zz_m2, zz_m3, zz_m4, zz_m5, zz_m6, zz_ck, zz_bl, zz_b3, zz_b2, zz_shl, zz_bt0, zz_bt1, pk_div, Nat.zero_add, Nat.add_zero, if_true, if_false, reduceIte, Nat.mul_zero, zz_or0, zz_inT, zz_inF, h4, a, ci, ix]
  · rw [hi, en_s] at ix
    rw [hi] at ho il
    by_cases c2 : i < β
    · simp (disch := omega) only [fX10_readItems_b21, fX10_readItems_b21w, zz_lt, li_0, li_1, li_2, li_3, li_4, li_5, li_6, li_7, li_8, li_9, li_10, li_11, li_12, li_15, li_16, li_20, li_21, li_24, li_25, li_26, li_32, li_33, li_38, li_40, li_41, li_42, li_43, li_45, li_47, li_48, li_57, li_58, li_59, li_60, li_61, li_62, li_63, li_74, li_75, li_84, li_91, li_93, li_98, li_100, li_103, li_105, li_107, li_109, li_110, li_111, li_112, li_115, li_118, li_119, li_120, li_121, li_124, li_140, li_180, li_206, li_240, li_255, li_420, li_520, li_999, li_1000, li_1771, li_8240, li_9999, li_88200, li_1000000, li_2097151, li_31, nI_add, pk_mul, zz_sub, zz_an, nI_clamp, zz_leT, zz_leF, zz_ltT, zz_ltF, zz_eqF, zz_eqT, zz_m1, zz_m2, zz_m3, zz_m4, zz_m5, zz_m6, zz_ck, zz_bl, zz_b3, zz_b2, zz_shl, zz_bt0, zz_bt1, pk_div, Nat.zero_add, Nat.add_zero, if_true, if_false, reduceIte, Nat.mul_zero, zz_or0, zz_inT, zz_inF, h4, a, ci, ix]
    · simp (disch := omega) only [fX10_readItems_b21, fX10_readItems_b21w, zz_lt, li_0, li_1, li_2, li_3, li_4, li_5, li_6, li_7, li_8, li_9, li_10, li_11, li_12, li_15, li_16, li_20, li_21, li_24, li_25, li_26, li_32, li_33, li_38, li_40, li_41, li_42, li_43, li_45, li_47, li_48, li_57, li_58, li_59, li_60, li_61, li_62, li_63, li_74, li_75, li_84, li_91, li_93, li_98, li_100, li_103, li_105, li_107, li_109, li_110, li_111, li_112, li_115, li_118, li_119, li_120, li_121, li_124, li_140, li_180, li_206, li_240, li_255, li_420, li_520, li_999, li_1000, li_1771, li_8240, li_9999, li_88200, li_1000000, li_2097151, li_31, nI_add, pk_mul, zz_sub, zz_an, nI_clamp, zz_leT, zz_leF, zz_ltT, zz_ltF, zz_eqF, zz_eqT, zz_m1, zz_m2, zz_m3, zz_m4, zz_m5, zz_m6, zz_ck, zz_bl, zz_b3, zz_b2, zz_shl, zz_bt0, zz_bt1, pk_div, Nat.zero_add, Nat.add_zero, if_true, if_false, reduceIte, Nat.mul_zero, zz_or0, zz_inT, zz_inF, h4, a, ci, ix]
theorem cl_seen {n : Nat} {t : Nat → Nat} (hG : GT n t) (f d : Nat) (hf : 300 < f) {I : am_I} (h : TC I n t) (L : am_L) {β cnt c p k : Nat} (hb : β + cnt ≤ 10) (hc : c ≤ 240) (hp : p < n) (hk : k < cnt) (hi : io10 (t p) = β + k + 1) (hs : bt (I 25 3) (β + k) = true) (F : Nat) : fX10_readItems_b21 f d (F + 1) (nI β) (nI (β + cnt)) (nI c) (cq I p) L = some (nI 0, cq I p, L) := by
  have g := hG.1
  have g2 := hG.2 p hp
  have h4 := cq_4 I p
  have h3 := cq_j I p (j := 3) (by omega)
  have a := pc_at hG f d (TC_cq h p) L (i := p) (by omega)
  rw [bx_lt hp, en_s] at a
  have h59 : t p ≠ 59 := by intro z; rw [z] at hi; simp [io10] at hi
  have ci := ch_id (b := t p) (by omega)
  have ix := pc_ix10 f d (by omega) (cq I p) L (b := t p) (by omega)
  rw [hi, en_s] at ix
  simp (disch := omega) only [fX10_readItems_b21, fX10_readItems_b21w, zz_lt, li_0, li_1, li_2, li_3, li_4, li_5, li_6, li_7, li_8, li_9, li_10, li_11, li_12, li_15, li_16, li_20, li_21, li_24, li_25, li_26, li_32, li_33, li_38, li_40, li_41, li_42, li_43, li_45, li_47, li_48, li_57, li_58, li_59, li_60, li_61, li_62, li_63, li_74, li_75, li_84, li_91, li_93, li_98, li_100, li_103, li_105, li_107, li_109, li_110, li_111, li_112, li_115, li_118, li_119, li_120, li_121, li_124, li_140, li_180, li_206, li_240, li_255, li_420, li_520, li_999, li_1000, li_1771, li_8240, li_9999, li_88200, li_1000000, li_2097151, li_31, nI_add, pk_mul, zz_sub, zz_an, nI_clamp, zz_leT, zz_leF, zz_ltT, zz_ltF, zz_eqF, zz_eqT, zz_m1, zz_m2, zz_m3, zz_m4, zz_m5, zz_m6, zz_ck, zz_bl, zz_b3, zz_b2, zz_shl, zz_bt0, zz_bt1, pk_div, Nat.zero_add, Nat.add_zero, if_true, if_false, reduceIte, Nat.mul_zero, zz_or0, zz_inT, zz_inF, h4, a, ci, ix, h3, hs, Bool.true_eq_false]
theorem cl_num {n : Nat} {t : Nat → Nat} (hG : GT n t) (f d : Nat) (hf : 300 < f) {I : am_I} (h : TC I n t) (L : am_L) {β cnt c p k : Nat} (hb : β + cnt ≤ 10) (hc : c ≤ 240) (hp : p < n) (hk : k < cnt) (hi : io10 (t p) = β + k + 1) (hs : bt (I 25 3) (β + k) = false) (F : Nat) : fX10_readItems_b21 f d (F + 1) (nI β) (nI (β + cnt)) (nI c) (cq I p) L = (if nOk n t (lwT (β + k)) (hgT (β + k)) (nb n t (p + 1)) = true then fX10_readItems_b21 f d F (nI β) (nI (β + cnt)) (nI (c + 1)) (cq (am_up (am_up I 25 3 (I 25 3 ||| nI (2 ^ (β + k)))) 26 (β + k) (nI (nV n t (nb n t (p + 1))))) (nb n t (nE n t (nb n t (p + 1)) + 1))) L else some (nI 0, cq (am_up I 25 3 (I 25 3 ||| nI (2 ^ (β + k)))) (nF n t (nb n t (p + 1))), L)) := by
  have g := hG.1
  have g2 := hG.2 p hp
  have h4 := cq_4 I p
  have h3 := cq_j I p (j := 3) (by omega)
  have a := pc_at hG f d (TC_cq h p) L (i := p) (by omega)
  rw [bx_lt hp, en_s] at a
  have h59 : t p ≠ 59 := by intro z; rw [z] at hi; simp [io10] at hi
  have ci := ch_id (b := t p) (by omega)
  have ix := pc_ix10 f d (by omega) (cq I p) L (b := t p) (by omega)
  rw [hi, en_s] at ix
  have cu := cq_upk I p (k := 25) (j := 3) (I 25 3 ||| nI (2 ^ (β + k))) (by omega)
  have go := pc_go hG f d hf (TC_up h (k := 25) (j := 3) (v := I 25 3 ||| nI (2 ^ (β + k))) (by omega)) L (p := p) (by omega)
  have nm := pc_num hG f d hf (TC_up h (k := 25) (j := 3) (v := I 25 3 ||| nI (2 ^ (β + k))) (by omega)) L (it := β + k) (p := nb n t (p + 1)) (by omega) (nb_le (by omega))
  cases c1 : nOk n t (lwT (β + k)) (hgT (β + k)) (nb n t (p + 1))
  · rw [c1, if_neg (by decide)] at nm
    rw [if_neg (by decide)]
    simp (disch := omega) only [fX10_readItems_b21, fX10_readItems_b21w, zz_lt, li_0, li_1, li_2, li_3, li_4, li_5, li_6, li_7, li_8, li_9, li_10, li_11, li_12, li_15, li_16, li_20, li_21, li_24, li_25, li_26, li_32, li_33, li_38, li_40, li_41, li_42, li_43, li_45, li_47, li_48, li_57, li_58, li_59, li_60, li_61, li_62, li_63, li_74, li_75, li_84, li_91, li_93, li_98, li_100, li_103, li_105, li_107, li_109, li_110, li_111, li_112, li_115, li_118, li_119, li_120, li_121, li_124, li_140, li_180, li_206, li_240, li_255, li_420, li_520, li_999, li_1000, li_1771, li_8240, li_9999, li_88200, li_1000000, li_2097151, li_31, nI_add, pk_mul, zz_sub, zz_an, nI_clamp, zz_leT, zz_leF, zz_ltT, zz_ltF, zz_eqF, zz_eqT, zz_m1, zz_m2, zz_m3, zz_m4, zz_m5, zz_m6, zz_ck, zz_bl, zz_b3, zz_b2, zz_shl, zz_bt0, zz_bt1, pk_div, Nat.zero_add, Nat.add_zero, if_true, if_false, reduceIte, Nat.mul_zero, zz_or0, zz_inT, zz_inF, h4, a, ci, ix, h3, hs, cu, go, nm]
  · rw [c1, if_pos rfl] at nm
    rw [if_pos rfl]
    simp (disch := omega) only [fX10_readItems_b21, fX10_readItems_b21w, zz_lt, li_0, li_1, li_2, li_3, li_4, li_5, li_6, li_7, li_8, li_9, li_10, li_11, li_12, li_15, li_16, li_20, li_21, li_24, li_25, li_26, li_32, li_33, li_38, li_40, li_41, li_42, li_43, li_45, li_47, li_48, li_57, li_58, li_59, li_60, li_61, li_62, li_63, li_74, li_75, li_84, li_91, li_93, li_98, li_100, li_103, li_105, li_107, li_109, li_110, li_111, li_112, li_115, li_118, li_119, li_120, li_121, li_124, li_140, li_180, li_206, li_240, li_255, li_420, li_520, li_999, li_1000, li_1771, li_8240, li_9999, li_88200, li_1000000, li_2097151, li_31, nI_add, pk_mul, zz_sub, zz_an, nI_clamp, zz_leT, zz_leF, zz_ltT, zz_ltF, zz_eqF, zz_eqT, zz_m1, zz_m2, zz_m3, zz_m4, zz_m5, zz_m6, zz_ck, zz_bl, zz_b3, zz_b2, zz_shl, zz_bt0, zz_bt1, pk_div, Nat.zero_add, Nat.add_zero, if_true, if_false, reduceIte, Nat.mul_zero, zz_or0, zz_inT, zz_inF, h4, a, ci, ix, h3, hs, cu, go, nm]
theorem nOk_v {n p lo hi : Nat} {t : Nat → Nat} (h : nOk n t lo hi p = true) : lo ≤ nV n t p ∧ nV n t p ≤ hi := by
  unfold nOk at h
  simp at h
  exact h.2.2
theorem nF_le {n p : Nat} {t : Nat → Nat} (hG : GT n t) (hp : p ≤ n) : nF n t p ≤ 300 := by
  have g := hG.1
  unfold nF
  split
  next c =>
    have := nE_le c
    split <;> omega
  · omega
def sIt (k j : Nat) : Bool := k == 26 || (k == 25 && j == 3)
theorem sIt_26 {j : Nat} : sIt 26 j = true := by simp [sIt]
theorem or_bit {x : Int32} {a i : Nat} (ha : a < 32) (hi : i < 32) : bt (x ||| nI (2 ^ a)) i = (bt x i || decide (i = a)) := by rw [b_or, bt_pow a ha i hi]
def pm_itMp (v : Int32) : Int32 := (if v = (115 : Int32) then nI 0 else (if v = (100 : Int32) then nI 1 else (if v = (118 : Int32) then nI 2 else (if v = (98 : Int32) then nI 3 else (if v = (110 : Int32) then nI 4 else (if v = (105 : Int32) then nI 5 else -nI 1))))))
theorem pm_itMq (f d : Nat) (v : Int32) (I : am_I) (L : am_L) : fX12_itemOf f d (nI 109) v I L = some (pm_itMp v, I, L) := by
  unfold fX12_itemOf
  rw [if_pos (show nI 109 = 109 from rfl)]
  unfold pm_itMp
  by_cases c0 : v = (115 : Int32)
  · rw [if_pos c0, if_pos c0]; rfl
  rw [if_neg c0, if_neg c0]
  by_cases c1 : v = (100 : Int32)
  · rw [if_pos c1, if_pos c1]; rfl
  rw [if_neg c1, if_neg c1]
  by_cases c2 : v = (118 : Int32)
  · rw [if_pos c2, if_pos c2]; rfl
  rw [if_neg c2, if_neg c2]
  by_cases c3 : v = (98 : Int32)
  · rw [if_pos c3, if_pos c3]; rfl
  rw [if_neg c3, if_neg c3]
  by_cases c4 : v = (110 : Int32)
  · rw [if_pos c4, if_pos c4]; rfl
  rw [if_neg c4, if_neg c4]
  by_cases c5 : v = (105 : Int32)
  · rw [if_pos c5, if_pos c5]; rfl
  rw [if_neg c5, if_neg c5]
  rfl
theorem pm_itMt : ∀ x, x < 257 → pm_itMp (zn x) = zn (itR 0 6 x) := by decide +kernel
theorem pm_itM (f d : Nat) {x : Nat} (hx : x < 257) (I : am_I) (L : am_L) : fX12_itemOf f d (nI 109) (zn x) I L = some (zn (itR 0 6 x), I, L) := by rw [pm_itMq, pm_itMt x hx]
theorem pm_usualM (f d : Nat) (I : am_I) (L : am_L) : ∀ k, k < 6 → fX12_usual f d (nI 109) (nI k) I L = some (nI (wiT (0 + k)), I, L)
  | 0, _ => by simp (disch := omega) only [fX12_usual, zz_lt, li_0, li_1, li_2, li_3, li_4, li_5, li_6, li_7, li_8, li_9, li_10, li_11, li_12, li_15, li_16, li_20, li_21, li_24, li_25, li_26, li_32, li_33, li_38, li_40, li_41, li_42, li_43, li_45, li_47, li_48, li_57, li_58, li_59, li_60, li_61, li_62, li_63, li_74, li_75, li_84, li_91, li_93, li_98, li_100, li_103, li_105, li_107, li_109, li_110, li_111, li_112, li_115, li_118, li_119, li_120, li_121, li_124, li_140, li_180, li_206, li_240, li_255, li_420, li_520, li_999, li_1000, li_1771, li_8240, li_9999, li_88200, li_1000000, li_2097151, li_31, nI_add, pk_mul, zz_sub, zz_an, nI_clamp, zz_leT, zz_leF, zz_ltT, zz_ltF, zz_eqF, zz_eqT, zz_m1, zz_m2, zz_m3, zz_m4, zz_m5, zz_m6, zz_ck, zz_bl, zz_b3, zz_b2, zz_shl, zz_bt0, zz_bt1, pk_div, Nat.zero_add, Nat.add_zero, if_true, if_false, reduceIte, Nat.mul_zero, zz_or0, zz_inT, zz_inF, wiT, Nat.reduceAdd]
  | 1, _ => by simp (disch := omega) only [fX12_usual, zz_lt, li_0, li_1, li_2, li_3, li_4, li_5, li_6, li_7, li_8, li_9, li_10, li_11, li_12, li_15, li_16, li_20, li_21, li_24, li_25, li_26, li_32, li_33, li_38, li_40, li_41, li_42, li_43, li_45, li_47, li_48, li_57, li_58, li_59, li_60, li_61, li_62, li_63, li_74, li_75, li_84, li_91, li_93, li_98, li_100, li_103, li_105, li_107, li_109, li_110, li_111, li_112, li_115, li_118, li_119, li_120, li_121, li_124, li_140, li_180, li_206, li_240, li_255, li_420, li_520, li_999, li_1000, li_1771, li_8240, li_9999, li_88200, li_1000000, li_2097151, li_31, nI_add, pk_mul, zz_sub, zz_an, nI_clamp, zz_leT, zz_leF, zz_ltT, zz_ltF, zz_eqF, zz_eqT, zz_m1, zz_m2, zz_m3, zz_m4, zz_m5, zz_m6, zz_ck, zz_bl, zz_b3, zz_b2, zz_shl, zz_bt0, zz_bt1, pk_div, Nat.zero_add, Nat.add_zero, if_true, if_false, reduceIte, Nat.mul_zero, zz_or0, zz_inT, zz_inF, wiT, Nat.reduceAdd]
  | 2, _ => by simp (disch := omega) only [fX12_usual, zz_lt, li_0, li_1, li_2, li_3, li_4, li_5, li_6, li_7, li_8, li_9, li_10, li_11, li_12, li_15, li_16, li_20, li_21, li_24, li_25, li_26, li_32, li_33, li_38, li_40, li_41, li_42, li_43, li_45, li_47, li_48, li_57, li_58, li_59, li_60, li_61, li_62, li_63, li_74, li_75, li_84, li_91, li_93, li_98, li_100, li_103, li_105, li_107, li_109, li_110, li_111, li_112, li_115, li_118, li_119, li_120, li_121, li_124, li_140, li_180, li_206, li_240, li_255, li_420, li_520, li_999, li_1000, li_1771, li_8240, li_9999, li_88200, li_1000000, li_2097151, li_31, nI_add, pk_mul, zz_sub, zz_an, nI_clamp, zz_leT, zz_leF, zz_ltT, zz_ltF, zz_eqF, zz_eqT, zz_m1, zz_m2, zz_m3, zz_m4, zz_m5, zz_m6, zz_ck, zz_bl, zz_b3, zz_b2, zz_shl, zz_bt0, zz_bt1, pk_div, Nat.zero_add, Nat.add_zero, if_true, if_false, reduceIte, Nat.mul_zero, zz_or0, zz_inT, zz_inF, wiT, Nat.reduceAdd]
  | 3, _ => by simp (disch := omega) only [fX12_usual, zz_lt, li_0, li_1, li_2, li_3, li_4, li_5, li_6, li_7, li_8, li_9, li_10, li_11, li_12, li_15, li_16, li_20, li_21, li_24, li_25, li_26, li_32, li_33, li_38, li_40, li_41, li_42, li_43, li_45, li_47, li_48, li_57, li_58, li_59, li_60, li_61, li_62, li_63, li_74, li_75, li_84, li_91, li_93, li_98, li_100, li_103, li_105, li_107, li_109, li_110, li_111, li_112, li_115, li_118, li_119, li_120, li_121, li_124, li_140, li_180, li_206, li_240, li_255, li_420, li_520, li_999, li_1000, li_1771, li_8240, li_9999, li_88200, li_1000000, li_2097151, li_31, nI_add, pk_mul, zz_sub, zz_an, nI_clamp, zz_leT, zz_leF, zz_ltT, zz_ltF, zz_eqF, zz_eqT, zz_m1, zz_m2, zz_m3, zz_m4, zz_m5, zz_m6, zz_ck, zz_bl, zz_b3, zz_b2, zz_shl, zz_bt0, zz_bt1, pk_div, Nat.zero_add, Nat.add_zero, if_true, if_false, reduceIte, Nat.mul_zero, zz_or0, zz_inT, zz_inF, wiT, Nat.reduceAdd]
  | 4, _ => by simp (disch := omega) only [fX12_usual, zz_lt, li_0, li_1, li_2, li_3, li_4, li_5, li_6, li_7, li_8, li_9, li_10, li_11, li_12, li_15, li_16, li_20, li_21, li_24, li_25, li_26, li_32, li_33, li_38, li_40, li_41, li_42, li_43, li_45, li_47, li_48, li_57, li_58, li_59, li_60, li_61, li_62, li_63, li_74, li_75, li_84, li_91, li_93, li_98, li_100, li_103, li_105, li_107, li_109, li_110, li_111, li_112, li_115, li_118, li_119, li_120, li_121, li_124, li_140, li_180, li_206, li_240, li_255, li_420, li_520, li_999, li_1000, li_1771, li_8240, li_9999, li_88200, li_1000000, li_2097151, li_31, nI_add, pk_mul, zz_sub, zz_an, nI_clamp, zz_leT, zz_leF, zz_ltT, zz_ltF, zz_eqF, zz_eqT, zz_m1, zz_m2, zz_m3, zz_m4, zz_m5, zz_m6, zz_ck, zz_bl, zz_b3, zz_b2, zz_shl, zz_bt0, zz_bt1, pk_div, Nat.zero_add, Nat.add_zero, if_true, if_false, reduceIte, Nat.mul_zero, zz_or0, zz_inT, zz_inF, wiT, Nat.reduceAdd]
  | 5, _ => by simp (disch := omega) only [fX12_usual, zz_lt, li_0, li_1, li_2, li_3, li_4, li_5, li_6, li_7, li_8, li_9, li_10, li_11, li_12, li_15, li_16, li_20, li_21, li_24, li_25, li_26, li_32, li_33, li_38, li_40, li_41, li_42, li_43, li_45, li_47, li_48, li_57, li_58, li_59, li_60, li_61, li_62, li_63, li_74, li_75, li_84, li_91, li_93, li_98, li_100, li_103, li_105, li_107, li_109, li_110, li_111, li_112, li_115, li_118, li_119, li_120, li_121, li_124, li_140, li_180, li_206, li_240, li_255, li_420, li_520, li_999, li_1000, li_1771, li_8240, li_9999, li_88200, li_1000000, li_2097151, li_31, nI_add, pk_mul, zz_sub, zz_an, nI_clamp, zz_leT, zz_leF, zz_ltT, zz_ltF, zz_eqF, zz_eqT, zz_m1, zz_m2, zz_m3, zz_m4, zz_m5, zz_m6, zz_ck, zz_bl, zz_b3, zz_b2, zz_shl, zz_bt0, zz_bt1, pk_div, Nat.zero_add, Nat.add_zero, if_true, if_false, reduceIte, Nat.mul_zero, zz_or0, zz_inT, zz_inF, wiT, Nat.reduceAdd]
  | k + 6, h => by omega
theorem pm_lowestM (f d : Nat) (I : am_I) (L : am_L) : ∀ k, k < 6 → fX12_lowest f d (nI 109) (nI k) I L = some (nI (lwT (0 + k)), I, L)
  | 0, _ => by simp (disch := omega) only [fX12_lowest, fX12_lowest_b17, zz_lt, li_0, li_1, li_2, li_3, li_4, li_5, li_6, li_7, li_8, li_9, li_10, li_11, li_12, li_15, li_16, li_20, li_21, li_24, li_25, li_26, li_32, li_33, li_38, li_40, li_41, li_42, li_43, li_45, li_47, li_48, li_57, li_58, li_59, li_60, li_61, li_62, li_63, li_74, li_75, li_84, li_91, li_93, li_98, li_100, li_103, li_105, li_107, li_109, li_110, li_111, li_112, li_115, li_118, li_119, li_120, li_121, li_124, li_140, li_180, li_206, li_240, li_255, li_420, li_520, li_999, li_1000, li_1771, li_8240, li_9999, li_88200, li_1000000, li_2097151, li_31, nI_add, pk_mul, zz_sub, zz_an, nI_clamp, zz_leT, zz_leF, zz_ltT, zz_ltF, zz_eqF, zz_eqT, zz_m1, zz_m2, zz_m3, zz_m4, zz_m5, zz_m6, zz_ck, zz_bl, zz_b3, zz_b2, zz_shl, zz_bt0, zz_bt1, pk_div, Nat.zero_add, Nat.add_zero, if_true, if_false, reduceIte, Nat.mul_zero, zz_or0, zz_inT, zz_inF, lwT, Nat.reduceAdd]
  | 1, _ => by simp (disch := omega) only [fX12_lowest, fX12_lowest_b17, zz_lt, li_0, li_1, li_2, li_3, li_4, li_5, li_6, li_7, li_8, li_9, li_10, li_11, li_12, li_15, li_16, li_20, li_21, li_24, li_25, li_26, li_32, li_33, li_38, li_40, li_41, li_42, li_43, li_45, li_47, li_48, li_57, li_58, li_59, li_60, li_61, li_62, li_63, li_74, li_75, li_84, li_91, li_93, li_98, li_100, li_103, li_105, li_107, li_109, li_110, li_111, li_112, li_115, li_118, li_119, li_120, li_121, li_124, li_140, li_180, li_206, li_240, li_255, li_420, li_520, li_999, li_1000, li_1771, li_8240, li_9999, li_88200, li_1000000, li_2097151, li_31, nI_add, pk_mul, zz_sub, zz_an, nI_clamp, zz_leT, zz_leF, zz_ltT, zz_ltF, zz_eqF, zz_eqT, zz_m1, zz_m2, zz_m3, zz_m4, zz_m5, zz_m6, zz_ck, zz_bl, zz_b3, zz_b2, zz_shl, zz_bt0, zz_bt1, pk_div, Nat.zero_add, Nat.add_zero, if_true, if_false, reduceIte, Nat.mul_zero, zz_or0, zz_inT, zz_inF, lwT, Nat.reduceAdd]
  | 2, _ => by simp (disch := omega) only [fX12_lowest, fX12_lowest_b17, zz_lt, li_0, li_1, li_2, li_3, li_4, li_5, li_6, li_7, li_8, li_9, li_10, li_11, li_12, li_15, li_16, li_20, li_21, li_24, li_25, li_26, li_32, li_33, li_38, li_40, li_41, li_42, li_43, li_45, li_47, li_48, li_57, li_58, li_59, li_60, li_61, li_62, li_63, li_74, li_75, li_84, li_91, li_93, li_98, li_100, li_103, li_105, li_107, li_109, li_110, li_111, li_112, li_115, li_118, li_119, li_120, li_121, li_124, li_140, li_180, li_206, li_240, li_255, li_420, li_520, li_999, li_1000, li_1771, li_8240, li_9999, li_88200, li_1000000, li_2097151, li_31, nI_add, pk_mul, zz_sub, zz_an, nI_clamp, zz_leT, zz_leF, zz_ltT, zz_ltF, zz_eqF, zz_eqT, zz_m1, zz_m2, zz_m3, zz_m4, zz_m5, zz_m6, zz_ck, zz_bl, zz_b3, zz_b2, zz_shl, zz_bt0, zz_bt1, pk_div, Nat.zero_add, Nat.add_zero, if_true, if_false, reduceIte, Nat.mul_zero, zz_or0, zz_inT, zz_inF, lwT, Nat.reduceAdd]
  | 3, _ => by simp (disch := omega) only [fX12_lowest, fX12_lowest_b17, zz_lt, li_0, li_1, li_2, li_3, li_4, li_5, li_6, li_7, li_8, li_9, li_10, li_11, li_12, li_15, li_16, li_20, li_21, li_24, li_25, li_26, li_32, li_33, li_38, li_40, li_41, li_42, li_43, li_45, li_47, li_48, li_57, li_58, li_59, li_60, li_61, li_62, li_63, li_74, li_75, li_84, li_91, li_93, li_98, li_100, li_103, li_105, li_107, li_109, li_110, li_111, li_112, li_115, li_118, li_119, li_120, li_121, li_124, li_140, li_180, li_206, li_240, li_255, li_420, li_520, li_999, li_1000, li_1771, li_8240, li_9999, li_88200, li_1000000, li_2097151, li_31, nI_add, pk_mul, zz_sub, zz_an, nI_clamp, zz_leT, zz_leF, zz_ltT, zz_ltF, zz_eqF, zz_eqT, zz_m1, zz_m2, zz_m3, zz_m4, zz_m5, zz_m6, zz_ck, zz_bl, zz_b3, zz_b2, zz_shl, zz_bt0, zz_bt1, pk_div, Nat.zero_add, Nat.add_zero, if_true, if_false, reduceIte, Nat.mul_zero, zz_or0, zz_inT, zz_inF, lwT, Nat.reduceAdd]
  | 4, _ => by simp (disch := omega) only [fX12_lowest, fX12_lowest_b17, zz_lt, li_0, li_1, li_2, li_3, li_4, li_5, li_6, li_7, li_8, li_9, li_10, li_11, li_12, li_15, li_16, li_20, li_21, li_24, li_25, li_26, li_32, li_33, li_38, li_40, li_41, li_42, li_43, li_45, li_47, li_48, li_57, li_58, li_59, li_60, li_61, li_62, li_63, li_74, li_75, li_84, li_91, li_93, li_98, li_100, li_103, li_105, li_107, li_109, li_110, li_111, li_112, li_115, li_118, li_119, li_120, li_121, li_124, li_140, li_180, li_206, li_240, li_255, li_420, li_520, li_999, li_1000, li_1771, li_8240, li_9999, li_88200, li_1000000, li_2097151, li_31, nI_add, pk_mul, zz_sub, zz_an, nI_clamp, zz_leT, zz_leF, zz_ltT, zz_ltF, zz_eqF, zz_eqT, zz_m1, zz_m2, zz_m3, zz_m4, zz_m5, zz_m6, zz_ck, zz_bl, zz_b3, zz_b2, zz_shl, zz_bt0, zz_bt1, pk_div, Nat.zero_add, Nat.add_zero, if_true, if_false, reduceIte, Nat.mul_zero, zz_or0, zz_inT, zz_inF, lwT, Nat.reduceAdd]
  | 5, _ => by simp (disch := omega) only [fX12_lowest, fX12_lowest_b17, zz_lt, li_0, li_1, li_2, li_3, li_4, li_5, li_6, li_7, li_8, li_9, li_10, li_11, li_12, li_15, li_16, li_20, li_21, li_24, li_25, li_26, li_32, li_33, li_38, li_40, li_41, li_42, li_43, li_45, li_47, li_48, li_57, li_58, li_59, li_60, li_61, li_62, li_63, li_74, li_75, li_84, li_91, li_93, li_98, li_100, li_103, li_105, li_107, li_109, li_110, li_111, li_112, li_115, li_118, li_119, li_120, li_121, li_124, li_140, li_180, li_206, li_240, li_255, li_420, li_520, li_999, li_1000, li_1771, li_8240, li_9999, li_88200, li_1000000, li_2097151, li_31, nI_add, pk_mul, zz_sub, zz_an, nI_clamp, zz_leT, zz_leF, zz_ltT, zz_ltF, zz_eqF, zz_eqT, zz_m1, zz_m2, zz_m3, zz_m4, zz_m5, zz_m6, zz_ck, zz_bl, zz_b3, zz_b2, zz_shl, zz_bt0, zz_bt1, pk_div, Nat.zero_add, Nat.add_zero, if_true, if_false, reduceIte, Nat.mul_zero, zz_or0, zz_inT, zz_inF, lwT, Nat.reduceAdd]
  | k + 6, h => by omega
theorem pm_highestM (f d : Nat) (I : am_I) (L : am_L) : ∀ k, k < 6 → fX12_highest f d (nI 109) (nI k) I L = some (nI (hgT (0 + k)), I, L)
  | 0, _ => by simp (disch := omega) only [fX12_highest, fX12_highest_b37, zz_lt, li_0, li_1, li_2, li_3, li_4, li_5, li_6, li_7, li_8, li_9, li_10, li_11, li_12, li_15, li_16, li_20, li_21, li_24, li_25, li_26, li_32, li_33, li_38, li_40, li_41, li_42, li_43, li_45, li_47, li_48, li_57, li_58, li_59, li_60, li_61, li_62, li_63, li_74, li_75, li_84, li_91, li_93, li_98, li_100, li_103, li_105, li_107, li_109, li_110, li_111, li_112, li_115, li_118, li_119, li_120, li_121, li_124, li_140, li_180, li_206, li_240, li_255, li_420, li_520, li_999, li_1000, li_1771, li_8240, li_9999, li_88200, li_1000000, li_2097151, li_31, nI_add, pk_mul, zz_sub, zz_an, nI_clamp, zz_leT, zz_leF, zz_ltT, zz_ltF, zz_eqF, zz_eqT, zz_m1, zz_m2, zz_m3, zz_m4, zz_m5, zz_m6, zz_ck, zz_bl, zz_b3, zz_b2, zz_shl, zz_bt0, zz_bt1, pk_div, Nat.zero_add, Nat.add_zero, if_true, if_false, reduceIte, Nat.mul_zero, zz_or0, zz_inT, zz_inF, hgT, Nat.reduceAdd]
  | 1, _ => by simp (disch := omega) only [fX12_highest, fX12_highest_b37, zz_lt, li_0, li_1, li_2, li_3, li_4, li_5, li_6, li_7, li_8, li_9, li_10, li_11, li_12, li_15, li_16, li_20, li_21, li_24, li_25, li_26, li_32, li_33, li_38, li_40, li_41, li_42, li_43, li_45, li_47, li_48, li_57, li_58, li_59, li_60, li_61, li_62, li_63, li_74, li_75, li_84, li_91, li_93, li_98, li_100, li_103, li_105, li_107, li_109, li_110, li_111, li_112, li_115, li_118, li_119, li_120, li_121, li_124, li_140, li_180, li_206, li_240, li_255, li_420, li_520, li_999, li_1000, li_1771, li_8240, li_9999, li_88200, li_1000000, li_2097151, li_31, nI_add, pk_mul, zz_sub, zz_an, nI_clamp, zz_leT, zz_leF, zz_ltT, zz_ltF, zz_eqF, zz_eqT, zz_m1, zz_m2, zz_m3, zz_m4, zz_m5, zz_m6, zz_ck, zz_bl, zz_b3, zz_b2, zz_shl, zz_bt0, zz_bt1, pk_div, Nat.zero_add, Nat.add_zero, if_true, if_false, reduceIte, Nat.mul_zero, zz_or0, zz_inT, zz_inF, hgT, Nat.reduceAdd]
  | 2, _ => by simp (disch := omega) only [fX12_highest, fX12_highest_b37, zz_lt, li_0, li_1, li_2, li_3, li_4, li_5, li_6, li_7, li_8, li_9, li_10, li_11, li_12, li_15, li_16, li_20, li_21, li_24, li_25, li_26, li_32, li_33, li_38, li_40, li_41, li_42, li_43, li_45, li_47, li_48, li_57, li_58, li_59, li_60, li_61, li_62, li_63, li_74, li_75, li_84, li_91, li_93, li_98, li_100, li_103, li_105, li_107, li_109, li_110, li_111, li_112, li_115, li_118, li_119, li_120, li_121, li_124, li_140, li_180, li_206, li_240, li_255, li_420, li_520, li_999, li_1000, li_1771, li_8240, li_9999, li_88200, li_1000000, li_2097151, li_31, nI_add, pk_mul, zz_sub, zz_an, nI_clamp, zz_leT, zz_leF, zz_ltT, zz_ltF, zz_eqF, zz_eqT, zz_m1, zz_m2, zz_m3, zz_m4, zz_m5, zz_m6, zz_ck, zz_bl, zz_b3, zz_b2, zz_shl, zz_bt0, zz_bt1, pk_div, Nat.zero_add, Nat.add_zero, if_true, if_false, reduceIte, Nat.mul_zero, zz_or0, zz_inT, zz_inF, hgT, Nat.reduceAdd]
  | 3, _ => by simp (disch := omega) only [fX12_highest, fX12_highest_b37, zz_lt, li_0, li_1, li_2, li_3, li_4, li_5, li_6, li_7, li_8, li_9, li_10, li_11, li_12, li_15, li_16, li_20, li_21, li_24, li_25, li_26, li_32, li_33, li_38, li_40, li_41, li_42, li_43, li_45, li_47, li_48, li_57, li_58, li_59, li_60, li_61, li_62, li_63, li_74, li_75, li_84, li_91, li_93, li_98, li_100, li_103, li_105, li_107, li_109, li_110, li_111, li_112, li_115, li_118, li_119, li_120, li_121, li_124, li_140, li_180, li_206, li_240, li_255, li_420, li_520, li_999, li_1000, li_1771, li_8240, li_9999, li_88200, li_1000000, li_2097151, li_31, nI_add, pk_mul, zz_sub, zz_an, nI_clamp, zz_leT, zz_leF, zz_ltT, zz_ltF, zz_eqF, zz_eqT, zz_m1, zz_m2, zz_m3, zz_m4, zz_m5, zz_m6, zz_ck, zz_bl, zz_b3, zz_b2, zz_shl, zz_bt0, zz_bt1, pk_div, Nat.zero_add, Nat.add_zero, if_true, if_false, reduceIte, Nat.mul_zero, zz_or0, zz_inT, zz_inF, hgT, Nat.reduceAdd]
  | 4, _ => by simp (disch := omega) only [fX12_highest, fX12_highest_b37, zz_lt, li_0, li_1, li_2, li_3, li_4, li_5, li_6, li_7, li_8, li_9, li_10, li_11, li_12, li_15, li_16, li_20, li_21, li_24, li_25, li_26, li_32, li_33, li_38, li_40, li_41, li_42, li_43, li_45, li_47, li_48, li_57, li_58, li_59, li_60, li_61, li_62, li_63, li_74, li_75, li_84, li_91, li_93, li_98, li_100, li_103, li_105, li_107, li_109, li_110, li_111, li_112, li_115, li_118, li_119, li_120, li_121, li_124, li_140, li_180, li_206, li_240, li_255, li_420, li_520, li_999, li_1000, li_1771, li_8240, li_9999, li_88200, li_1000000, li_2097151, li_31, nI_add, pk_mul, zz_sub, zz_an, nI_clamp, zz_leT, zz_leF, zz_ltT, zz_ltF, zz_eqF, zz_eqT, zz_m1, zz_m2, zz_m3, zz_m4, zz_m5, zz_m6, zz_ck, zz_bl, zz_b3, zz_b2, zz_shl, zz_bt0, zz_bt1, pk_div, Nat.zero_add, Nat.add_zero, if_true, if_false, reduceIte, Nat.mul_zero, zz_or0, zz_inT, zz_inF, hgT, Nat.reduceAdd]
  | 5, _ => by simp (disch := omega) only [fX12_highest, fX12_highest_b37, zz_lt, li_0, li_1, li_2, li_3, li_4, li_5, li_6, li_7, li_8, li_9, li_10, li_11, li_12, li_15, li_16, li_20, li_21, li_24, li_25, li_26, li_32, li_33, li_38, li_40, li_41, li_42, li_43, li_45, li_47, li_48, li_57, li_58, li_59, li_60, li_61, li_62, li_63, li_74, li_75, li_84, li_91, li_93, li_98, li_100, li_103, li_105, li_107, li_109, li_110, li_111, li_112, li_115, li_118, li_119, li_120, li_121, li_124, li_140, li_180, li_206, li_240, li_255, li_420, li_520, li_999, li_1000, li_1771, li_8240, li_9999, li_88200, li_1000000, li_2097151, li_31, nI_add, pk_mul, zz_sub, zz_an, nI_clamp, zz_leT, zz_leF, zz_ltT, zz_ltF, zz_eqF, zz_eqT, zz_m1, zz_m2, zz_m3, zz_m4, zz_m5, zz_m6, zz_ck, zz_bl, zz_b3, zz_b2, zz_shl, zz_bt0, zz_bt1, pk_div, Nat.zero_add, Nat.add_zero, if_true, if_false, reduceIte, Nat.mul_zero, zz_or0, zz_inT, zz_inF, hgT, Nat.reduceAdd]
  | k + 6, h => by omega
theorem ml_stopM (f d : Nat) (I : am_I) (L : am_L) (a1 a3 y : Int32) (a : Nat) (w : Int32) (G : Nat) : fX12_items_readMan_b41 f d (G + 1) a1 a3 y (-nI 1) (mp I a w) L = some (mp I a w, L) := by
  have h4 := mp_4 I a w
  by_cases c : w = -nI 1 <;> simp (disch := omega) only [fX12_items_readMan_b41, fX12_items_readMan_b41w, zz_lt, li_0, li_1, li_2, li_3, li_4, li_5, li_6, li_7, li_8, li_9, li_10, li_11, li_12, li_15, li_16, li_20, li_21, li_24, li_25, li_26, li_32, li_33, li_38, li_40, li_41, li_42, li_43, li_45, li_47, li_48, li_57, li_58, li_59, li_60, li_61, li_62, li_63, li_74, li_75, li_84, li_91, li_93, li_98, li_100, li_103, li_105, li_107, li_109, li_110, li_111, li_112, li_115, li_118, li_119, li_120, li_121, li_124, li_140, li_180, li_206, li_240, li_255, li_420, li_520, li_999, li_1000, li_1771, li_8240, li_9999, li_88200, li_1000000, li_2097151, li_31, nI_add, pk_mul, zz_sub, zz_an, nI_clamp, zz_leT, zz_leF, zz_ltT, zz_ltF, zz_eqF, zz_eqT, zz_m1, zz_m2, zz_m3, zz_m4, zz_m5, zz_m6, zz_ck, zz_bl, zz_b3, zz_b2, zz_shl, zz_bt0, zz_bt1, pk_div, Nat.zero_add, Nat.add_zero, if_true, if_false, reduceIte, Nat.mul_zero, zz_or0, zz_inT, zz_inF, mp_4, c]
theorem ml_badM (f d : Nat) (I : am_I) (L : am_L) (a1 a3 y a6 : Int32) (a : Nat) {b : Nat} (hb : b < 1000) (G : Nat) : fX12_items_readMan_b41 f d (G + 1) a1 a3 y a6 (mp I a (nI b)) L = some (mp I a (nI b), L) := by
  have h4 := mp_4 I a (nI b)
  simp (disch := omega) only [fX12_items_readMan_b41, fX12_items_readMan_b41w, zz_lt, li_0, li_1, li_2, li_3, li_4, li_5, li_6, li_7, li_8, li_9, li_10, li_11, li_12, li_15, li_16, li_20, li_21, li_24, li_25, li_26, li_32, li_33, li_38, li_40, li_41, li_42, li_43, li_45, li_47, li_48, li_57, li_58, li_59, li_60, li_61, li_62, li_63, li_74, li_75, li_84, li_91, li_93, li_98, li_100, li_103, li_105, li_107, li_109, li_110, li_111, li_112, li_115, li_118, li_119, li_120, li_121, li_124, li_140, li_180, li_206, li_240, li_255, li_420, li_520, li_999, li_1000, li_1771, li_8240, li_9999, li_88200, li_1000000, li_2097151, li_31, nI_add, pk_mul, zz_sub, zz_an, nI_clamp, zz_leT, zz_leF, zz_ltT, zz_ltF, zz_eqF, zz_eqT, zz_m1, zz_m2, zz_m3, zz_m4, zz_m5, zz_m6, zz_ck, zz_bl, zz_b3, zz_b2, zz_shl, zz_bt0, zz_bt1, pk_div, Nat.zero_add, Nat.add_zero, if_true, if_false, reduceIte, Nat.mul_zero, zz_or0, zz_inT, zz_inF, h4]
theorem ml_seenM (f d : Nat) (I : am_I) (L : am_L) (a1 a3 y : Int32) (a : Nat) {k : Nat} (hk : k < 30) (hs : bt y k = true) (G : Nat) : fX12_items_readMan_b41 f d (G + 1) a1 a3 y (nI k) (mp I a (-nI 1)) L = some (mp I a (-nI 1), L) := by
  have h4 := mp_4 I a (-nI 1)
  have hh := pm_has f d y k (mp I a (-nI 1)) L (by omega)
  rw [hs] at hh
  simp (disch := omega) only [fX12_items_readMan_b41, fX12_items_readMan_b41w, zz_lt, li_0, li_1, li_2, li_3, li_4, li_5, li_6, li_7, li_8, li_9, li_10, li_11, li_12, li_15, li_16, li_20, li_21, li_24, li_25, li_26, li_32, li_33, li_38, li_40, li_41, li_42, li_43, li_45, li_47, li_48, li_57, li_58, li_59, li_60, li_61, li_62, li_63, li_74, li_75, li_84, li_91, li_93, li_98, li_100, li_103, li_105, li_107, li_109, li_110, li_111, li_112, li_115, li_118, li_119, li_120, li_121, li_124, li_140, li_180, li_206, li_240, li_255, li_420, li_520, li_999, li_1000, li_1771, li_8240, li_9999, li_88200, li_1000000, li_2097151, li_31, nI_add, pk_mul, zz_sub, zz_an, nI_clamp, zz_leT, zz_leF, zz_ltT, zz_ltF, zz_eqF, zz_eqT, zz_m1, zz_m2, zz_m3, zz_m4, zz_m5, zz_m6, zz_ck, zz_bl, zz_b3, zz_b2, zz_shl, zz_bt0, zz_bt1, pk_div, Nat.zero_add, Nat.add_zero, if_true, if_false, reduceIte, Nat.mul_zero, zz_or0, zz_inT, zz_inF, h4, hh, Bool.toNat_true]
theorem ml_numM {n : Nat} {t : Nat → Nat} (hG : GT n t) (f d : Nat) (hf : 300 < f) {J : am_I} (h : TM J n t) (L : am_L) (y : Int32) {o p k : Nat} (ho : o + 6 ≤ 48) (hp : p < n) (hk : k < 6) (hs : bt y k = false) (G : Nat) : ∃ v' a', fX12_items_readMan_b41 f d (G + 1 + 1) (nI 109) (nI o) y (nI k) (mp J p (-nI 1)) L = (if nOk n t (lwT (0 + k)) (hgT (0 + k)) (nb n t (p + 1)) = true then fX12_items_readMan_b41 f d (G + 1) (nI 109) (nI o) (y ||| nI (2 ^ k)) (zn (itR 0 6 (bx n t (nb n t (nE n t (nb n t (p + 1)) + 1))))) (mp (am_up J 11 (o + k) (nI (nV n t (nb n t (p + 1))))) (nb n t (nE n t (nb n t (p + 1)) + 1)) (-nI 1)) L else some (mp (am_up J 11 (o + k) v') a' (nI (nF n t (nb n t (p + 1)))), L)) ∧ a' ≤ 300 := by
  have g := hG.1
  have h4 := mp_4 J p (-nI 1)
  have h3 := mp_3 J p (-nI 1)
  have hh := pm_has f d y k (mp J p (-nI 1)) L (by omega)
  rw [hs] at hh
  have lw := pm_lowestM f d (mp J (p + 1) (-nI 1)) L k hk
  have hi := pm_highestM f d (mp J (p + 1) (-nI 1)) L k hk
  have h20 := hg_le (0 + k) (by omega)
  have wi := wi_in (0 + k) (by omega)
  have np := nb_le (n := n) (t := t) (i := p + 1) (by omega)
  obtain ⟨v', a', n1, n2⟩ := pm_num hG f d hf h L (a := p + 1) (p := nb n t (p + 1)) (lo := lwT (0 + k)) (hi := hgT (0 + k)) (by omega) rfl (by omega) (by omega)
  refine ⟨v', a', ?_, n2⟩
  cases c1 : nOk n t (lwT (0 + k)) (hgT (0 + k)) (nb n t (p + 1))
  · rw [c1, if_neg (by decide)] at n1
    rw [if_neg (by decide)]
    have fl := nF_le hG np
    have mu := mp_upk J a' (nI (nF n t (nb n t (p + 1)))) (k := 11) (j := o + k) v' (by omega)
    have h5 := mp_4 (am_up J 11 (o + k) v') a' (nI (nF n t (nb n t (p + 1))))
    have st := ml_badM f d (am_up J 11 (o + k) v') L (nI 109) (nI o) (y ||| nI (2 ^ k)) (-nI 1) a' (b := nF n t (nb n t (p + 1))) (by omega) G
    rw [← st]
    (try simp only [Nat.zero_add] at n1)
    rw [show fX12_items_readMan_b41 f d (G + 1 + 1) = fX12_items_readMan_b41w f d (fX12_items_readMan_b41 f d (G + 1)) from rfl]
    generalize fX12_items_readMan_b41 f d (G + 1) = KK
    simp (disch := omega) only [fX12_items_readMan_b41w, fX12_items_readMan_b126, zz_lt, li_0, li_1, li_2, li_3, li_4, li_5, li_6, li_7, li_8, li_9, li_10, li_11, li_12, li_15, li_16, li_20, li_21, li_24, li_25, li_26, li_32, li_33, li_38, li_40, li_41, li_42, li_43, li_45, li_47, li_48, li_57, li_58, li_59, li_60, li_61, li_62, li_63, li_74, li_75, li_84, li_91, li_93, li_98, li_100, li_103, li_105, li_107, li_109, li_110, li_111, li_112, li_115, li_118, li_119, li_120, li_121, li_124, li_140, li_180, li_206, li_240, li_255, li_420, li_520, li_999, li_1000, li_1771, li_8240, li_9999, li_88200, li_1000000, li_2097151, li_31, nI_add, pk_mul, zz_sub, zz_an, nI_clamp, zz_leT, zz_leF, zz_ltT, zz_ltF, zz_eqF, zz_eqT, zz_m1, zz_m2, zz_m3, zz_m4, zz_m5, zz_m6, zz_ck, zz_bl, zz_b3, zz_b2, zz_shl, zz_bt0, zz_bt1, pk_div, Nat.zero_add, Nat.add_zero, if_true, if_false, reduceIte, Nat.mul_zero, zz_or0, zz_inT, zz_inF, h4, h3, hh, mp_up3, lw, hi, n1, mu, h5, Bool.toNat_false]
  · rw [c1, if_pos rfl] at n1
    rw [if_pos rfl]
    have dp : dg n t (nb n t (p + 1)) = true := by
      unfold nOk at c1
      cases z : dg n t (nb n t (p + 1))
      · rw [z, Bool.false_and] at c1; cases c1
      · rfl
    have ne := nE_le dp
    have nv := nV_le dp
    have mu := mp_upk J (nE n t (nb n t (p + 1)) + 1) (-nI 1) (k := 11) (j := o + k) (nI (nV n t (nb n t (p + 1)))) (by omega)
    have h5 := mp_4 (am_up J 11 (o + k) (nI (nV n t (nb n t (p + 1))))) (nE n t (nb n t (p + 1)) + 1) (-nI 1)
    have lk := pm_look hG f d hf (TM_up h (k := 11) (j := o + k) (v := nI (nV n t (nb n t (p + 1)))) (by omega)) L (-nI 1) (a := nE n t (nb n t (p + 1)) + 1) (by omega)
    have bl := bx_le hG (nb n t (nE n t (nb n t (p + 1)) + 1))
    have it := pm_itM f d (x := bx n t (nb n t (nE n t (nb n t (p + 1)) + 1))) (by omega) (mp (am_up J 11 (o + k) (nI (nV n t (nb n t (p + 1))))) (nb n t (nE n t (nb n t (p + 1)) + 1)) (-nI 1)) L
    (try simp only [Nat.zero_add] at n1)
    rw [show fX12_items_readMan_b41 f d (G + 1 + 1) = fX12_items_readMan_b41w f d (fX12_items_readMan_b41 f d (G + 1)) from rfl]
    generalize fX12_items_readMan_b41 f d (G + 1) = KK
    simp (disch := omega) only [fX12_items_readMan_b41w, fX12_items_readMan_b126, zz_lt, li_0, li_1, li_2, li_3, li_4, li_5, li_6, li_7, li_8, li_9, li_10, li_11, li_12, li_15, li_16, li_20, li_21, li_24, li_25, li_26, li_32, li_33, li_38, li_40, li_41, li_42, li_43, li_45, li_47, li_48, li_57, li_58, li_59, li_60, li_61, li_62, li_63, li_74, li_75, li_84, li_91, li_93, li_98, li_100, li_103, li_105, li_107, li_109, li_110, li_111, li_112, li_115, li_118, li_119, li_120, li_121, li_124, li_140, li_180, li_206, li_240, li_255, li_420, li_520, li_999, li_1000, li_1771, li_8240, li_9999, li_88200, li_1000000, li_2097151, li_31, nI_add, pk_mul, zz_sub, zz_an, nI_clamp, zz_leT, zz_leF, zz_ltT, zz_ltF, zz_eqF, zz_eqT, zz_m1, zz_m2, zz_m3, zz_m4, zz_m5, zz_m6, zz_ck, zz_bl, zz_b3, zz_b2, zz_shl, zz_bt0, zz_bt1, pk_div, Nat.zero_add, Nat.add_zero, if_true, if_false, reduceIte, Nat.mul_zero, zz_or0, zz_inT, zz_inF, h4, h3, hh, mp_up3, lw, hi, n1, mu, h5, lk, it, Bool.toNat_false]
def sJM (o k j : Nat) : Bool := k == 11 && decide (o ≤ j ∧ j < o + 6)
theorem sJM_t {o j : Nat} (h : o ≤ j ∧ j < o + 6) : sJM o 11 j = true := by simp [sJM, h]
/-- how both read the items of a clause -/
theorem it_bothM {n : Nat} {t : Nat → Nat} (hG : GT n t) (f d : Nat) (hf : 300 < f) (LC LM : am_L) {o : Nat} (ho : o + 6 ≤ 48) : ∀ (F G p c : Nat) (I J : am_I) (y : Int32) (val : Nat → Nat), n - p < F → n - p + 1 < G → p ≤ n → (p < n → t p ≠ 32) → c ≤ p → TC I n t → TM J n t → (∀ k, k < 6 → bt (I 25 3) (0 + k) = bt y k) → (∀ k, k < 6 → I 26 (0 + k) = nI (val k) ∧ J 11 (o + k) = nI (val k) ∧ lwT (0 + k) ≤ val k ∧ val k ≤ hgT (0 + k)) → ∃ (r : Nat) (I' J' : am_I) (a' : Nat) (w' : Int32) (p' : Nat) (val' : Nat → Nat), fX10_readItems_b21 f d F (nI 0) (nI (0 + 6)) (nI c) (cq I p) LC = some (nI r, cq I' p', LC) ∧ fX12_items_readMan_b41 f d G (nI 109) (nI o) y (zn (itR 0 6 (bx n t p))) (mp J p (-nI 1)) LM = some (mp J' a' w', LM) ∧ am_ag sIt I I' ∧ am_ag (sJM o) J J' ∧ ((r = 1 ∧ w' = -nI 1 ∧ a' = p' ∧ p' ≤ n ∧ (p' < n → t p' = 59) ∧ p ≤ p' ∧ (∀ k, k < 6 → I' 26 (0 + k) = nI (val' k) ∧ J' 11 (o + k) = nI (val' k) ∧ lwT (0 + k) ≤ val' k ∧ val' k ≤ hgT (0 + k))) ∨ (r = 0 ∧ a' ≤ 300 ∧ p' ≤ 300 ∧ (w' = nI p' ∨ (w' = -nI 1 ∧ a' = p' ∧ p' < n ∧ t p' ≠ 59 ∧ t p' ≠ 32))))
  | 0, _, _, _, _, _, _, _, fu, _, _, _, _, _, _, _, _ => by omega
  | _, 0, _, _, _, _, _, _, _, fu, _, _, _, _, _, _, _ => by omega
  | _, 1, _, _, _, _, _, _, _, fu, _, _, _, _, _, _, _ => by omega
  | F + 1, G + 2, p, c, I, J, y, val, fu, fg, hp, hb, hc, hI, hJ, hs, hv => by
    have g := hG.1
    have stp := ml_stopM f d J LM (nI 109) (nI o) y p (-nI 1) (G + 1)
    by_cases ce : p < n → t p = 59
    · have c1 := cl_end hG f d hI LC (nI 0) (nI (0 + 6)) (c := c) (p := p) (by omega) hp ce F
      refine ⟨1, I, J, p, -nI 1, p, val, c1, ?_, ag_rf, ag_rf, Or.inl ⟨rfl, rfl, rfl, hp, ce, Nat.le_refl _, hv⟩⟩
      have z : itR 0 6 (bx n t p) = 0 := by
        by_cases c2 : p < n
        · rw [bx_lt c2, ce c2]; rfl
        · rw [bx_ge (by omega)]; rfl
      rw [z, en_0]
      exact stp
    · have hpn : p < n := by
        by_cases z : p < n
        · exact z
        · exact absurd (fun q => absurd q z) ce
      have h59 : t p ≠ 59 := fun z => ce (fun _ => z)
      have h32 := hb hpn
      have g2 := hG.2 p hpn
      have il := io10_le (t p) (by omega)
      rw [bx_lt hpn]
      by_cases ci : 0 + 1 ≤ io10 (t p) ∧ io10 (t p) ≤ 0 + 6
      · obtain ⟨k, hk⟩ : ∃ k, io10 (t p) = 0 + k + 1 := ⟨io10 (t p) - (0 + 1), by omega⟩
        have kc : k < 6 := by omega
        have zi : itR 0 6 (t p + 1) = k + 1 := by
          unfold itR
          rw [if_neg (by omega), Nat.add_sub_cancel, if_pos ci]
          omega
        rw [zi, en_s]
        have sk := hs k kc
        cases cs : bt y k
        · rw [cs] at sk
          have c1 := cl_num hG f d hf hI LC (β := 0) (cnt := 6) (c := c) (p := p) (k := k) (by omega) (by omega) hpn kc hk sk F
          obtain ⟨v', a', m1, m2⟩ := ml_numM hG f d hf hJ LM y (o := o) (p := p) (k := k) ho hpn kc cs G
          have np := nb_le (n := n) (t := t) (i := p + 1) (by omega)
          cases cn : nOk n t (lwT (0 + k)) (hgT (0 + k)) (nb n t (p + 1))
          · rw [cn, if_neg (by decide)] at c1 m1
            exact ⟨0, _, _, a', _, nF n t (nb n t (p + 1)), val, c1, m1, ag_up ag_rf rfl, ag_up ag_rf (sJM_t (by omega)), Or.inr ⟨rfl, m2, nF_le hG np, Or.inl rfl⟩⟩
          · rw [cn, if_pos rfl] at c1 m1
            have dp : dg n t (nb n t (p + 1)) = true := by
              unfold nOk at cn
              cases z : dg n t (nb n t (p + 1))
              · rw [z, Bool.false_and] at cn; cases cn
              · rfl
            have vb : lwT (0 + k) ≤ nV n t (nb n t (p + 1)) ∧ nV n t (nb n t (p + 1)) ≤ hgT (0 + k) := by
              exact nOk_v cn
            have ne := nE_le dp
            have ge := nb_ge n t (p + 1)
            have ge2 := nb_ge n t (nE n t (nb n t (p + 1)) + 1)
            have le2 := nb_le (n := n) (t := t) (i := nE n t (nb n t (p + 1)) + 1) (by omega)
            obtain ⟨r, I', J', a2, w', p', val', z1, z2, z3, z4, z5⟩ := it_bothM hG f d hf LC LM ho F (G + 1) (nb n t (nE n t (nb n t (p + 1)) + 1)) (c + 1) (am_up (am_up I 25 3 (I 25 3 ||| nI (2 ^ (0 + k)))) 26 (0 + k) (nI (nV n t (nb n t (p + 1))))) (am_up J 11 (o + k) (nI (nV n t (nb n t (p + 1))))) (y ||| nI (2 ^ k)) (un val k (nV n t (nb n t (p + 1)))) (by omega) (by omega) le2 (fun z => nb_no (by omega) z) (by omega) (TC_up (TC_up hI (by omega)) (by omega)) (TM_up hJ (by omega)) (fun i hi => by
              rw [am_up_ne (by omega), up_s rfl, or_bit (by omega) (by omega), or_bit (by omega) (by omega), hs i hi]
              congr 1
              by_cases q : i = k
              · subst q; simp
              · rw [decide_eq_false (by omega), decide_eq_false q]) (fun i hi => by
              have := hv i hi
              unfold un
              by_cases q : i = k
              · subst q
                rw [if_pos rfl, up_s rfl, up_s rfl]
                exact ⟨rfl, rfl, vb⟩
              · rw [if_neg q, up_n (by omega), up_n (by omega), am_up_ne (by omega)]
                exact this)
            refine ⟨r, I', J', a2, w', p', val', by rw [c1]; exact z1, by rw [m1]; exact z2, ag_tr (ag_up (ag_up ag_rf rfl) sIt_26) z3, ag_tr (ag_up ag_rf (sJM_t (by omega))) z4, ?_⟩
            rcases z5 with ⟨q1, q2, q3, q4, q5, q6, q7⟩ | q
            · exact Or.inl ⟨q1, q2, q3, q4, q5, by omega, q7⟩
            · exact Or.inr q
        · rw [cs] at sk
          have c1 := cl_seen hG f d hf hI LC (β := 0) (cnt := 6) (c := c) (p := p) (k := k) (by omega) (by omega) hpn kc hk sk F
          have m1 := ml_seenM f d J LM (nI 109) (nI o) y p (k := k) (by omega) cs (G + 1)
          exact ⟨0, I, J, p, -nI 1, p, val, c1, m1, ag_rf, ag_rf, Or.inr ⟨rfl, by omega, by omega, Or.inr ⟨rfl, rfl, hpn, h59, h32⟩⟩⟩
      · have c1 := cl_out hG f d hf hI LC (β := 0) (cnt := 6) (c := c) (p := p) (by omega) (by omega) hpn h59 ci F
        have zi : itR 0 6 (t p + 1) = 0 := by
          unfold itR
          rw [if_neg (by omega), Nat.add_sub_cancel, if_neg ci]
        rw [zi, en_0]
        exact ⟨0, I, J, p, -nI 1, p, val, c1, stp, ag_rf, ag_rf, Or.inr ⟨rfl, by omega, by omega, Or.inr ⟨rfl, rfl, hpn, h59, h32⟩⟩⟩
def pm_itOp (v : Int32) : Int32 := (if v = (107 : Int32) then nI 0 else (if v = (120 : Int32) then nI 1 else -nI 1))
theorem pm_itOq (f d : Nat) (v : Int32) (I : am_I) (L : am_L) : fX12_itemOf f d (nI 111) v I L = some (pm_itOp v, I, L) := by
  unfold fX12_itemOf
  rw [if_neg (by decide), if_pos (show nI 111 = 111 from rfl)]
  unfold pm_itOp
  by_cases c0 : v = (107 : Int32)
  · rw [if_pos c0, if_pos c0]; rfl
  rw [if_neg c0, if_neg c0]
  by_cases c1 : v = (120 : Int32)
  · rw [if_pos c1, if_pos c1]; rfl
  rw [if_neg c1, if_neg c1]
  rfl
theorem pm_itOt : ∀ x, x < 257 → pm_itOp (zn x) = zn (itR 6 2 x) := by decide +kernel
theorem pm_itO (f d : Nat) {x : Nat} (hx : x < 257) (I : am_I) (L : am_L) : fX12_itemOf f d (nI 111) (zn x) I L = some (zn (itR 6 2 x), I, L) := by rw [pm_itOq, pm_itOt x hx]
theorem pm_usualO (f d : Nat) (I : am_I) (L : am_L) : ∀ k, k < 2 → fX12_usual f d (nI 111) (nI k) I L = some (nI (wiT (6 + k)), I, L)
  | 0, _ => by simp (disch := omega) only [fX12_usual, zz_lt, li_0, li_1, li_2, li_3, li_4, li_5, li_6, li_7, li_8, li_9, li_10, li_11, li_12, li_15, li_16, li_20, li_21, li_24, li_25, li_26, li_32, li_33, li_38, li_40, li_41, li_42, li_43, li_45, li_47, li_48, li_57, li_58, li_59, li_60, li_61, li_62, li_63, li_74, li_75, li_84, li_91, li_93, li_98, li_100, li_103, li_105, li_107, li_109, li_110, li_111, li_112, li_115, li_118, li_119, li_120, li_121, li_124, li_140, li_180, li_206, li_240, li_255, li_420, li_520, li_999, li_1000, li_1771, li_8240, li_9999, li_88200, li_1000000, li_2097151, li_31, nI_add, pk_mul, zz_sub, zz_an, nI_clamp, zz_leT, zz_leF, zz_ltT, zz_ltF, zz_eqF, zz_eqT, zz_m1, zz_m2, zz_m3, zz_m4, zz_m5, zz_m6, zz_ck, zz_bl, zz_b3, zz_b2, zz_shl, zz_bt0, zz_bt1, pk_div, Nat.zero_add, Nat.add_zero, if_true, if_false, reduceIte, Nat.mul_zero, zz_or0, zz_inT, zz_inF, wiT, Nat.reduceAdd]
  | 1, _ => by simp (disch := omega) only [fX12_usual, zz_lt, li_0, li_1, li_2, li_3, li_4, li_5, li_6, li_7, li_8, li_9, li_10, li_11, li_12, li_15, li_16, li_20, li_21, li_24, li_25, li_26, li_32, li_33, li_38, li_40, li_41, li_42, li_43, li_45, li_47, li_48, li_57, li_58, li_59, li_60, li_61, li_62, li_63, li_74, li_75, li_84, li_91, li_93, li_98, li_100, li_103, li_105, li_107, li_109, li_110, li_111, li_112, li_115, li_118, li_119, li_120, li_121, li_124, li_140, li_180, li_206, li_240, li_255, li_420, li_520, li_999, li_1000, li_1771, li_8240, li_9999, li_88200, li_1000000, li_2097151, li_31, nI_add, pk_mul, zz_sub, zz_an, nI_clamp, zz_leT, zz_leF, zz_ltT, zz_ltF, zz_eqF, zz_eqT, zz_m1, zz_m2, zz_m3, zz_m4, zz_m5, zz_m6, zz_ck, zz_bl, zz_b3, zz_b2, zz_shl, zz_bt0, zz_bt1, pk_div, Nat.zero_add, Nat.add_zero, if_true, if_false, reduceIte, Nat.mul_zero, zz_or0, zz_inT, zz_inF, wiT, Nat.reduceAdd]
  | k + 2, h => by omega
theorem pm_lowestO (f d : Nat) (I : am_I) (L : am_L) : ∀ k, k < 2 → fX12_lowest f d (nI 111) (nI k) I L = some (nI (lwT (6 + k)), I, L)
  | 0, _ => by simp (disch := omega) only [fX12_lowest, fX12_lowest_b17, zz_lt, li_0, li_1, li_2, li_3, li_4, li_5, li_6, li_7, li_8, li_9, li_10, li_11, li_12, li_15, li_16, li_20, li_21, li_24, li_25, li_26, li_32, li_33, li_38, li_40, li_41, li_42, li_43, li_45, li_47, li_48, li_57, li_58, li_59, li_60, li_61, li_62, li_63, li_74, li_75, li_84, li_91, li_93, li_98, li_100, li_103, li_105, li_107, li_109, li_110, li_111, li_112, li_115, li_118, li_119, li_120, li_121, li_124, li_140, li_180, li_206, li_240, li_255, li_420, li_520, li_999, li_1000, li_1771, li_8240, li_9999, li_88200, li_1000000, li_2097151, li_31, nI_add, pk_mul, zz_sub, zz_an, nI_clamp, zz_leT, zz_leF, zz_ltT, zz_ltF, zz_eqF, zz_eqT, zz_m1, zz_m2, zz_m3, zz_m4, zz_m5, zz_m6, zz_ck, zz_bl, zz_b3, zz_b2, zz_shl, zz_bt0, zz_bt1, pk_div, Nat.zero_add, Nat.add_zero, if_true, if_false, reduceIte, Nat.mul_zero, zz_or0, zz_inT, zz_inF, lwT, Nat.reduceAdd]
  | 1, _ => by simp (disch := omega) only [fX12_lowest, fX12_lowest_b17, zz_lt, li_0, li_1, li_2, li_3, li_4, li_5, li_6, li_7, li_8, li_9, li_10, li_11, li_12, li_15, li_16, li_20, li_21, li_24, li_25, li_26, li_32, li_33, li_38, li_40, li_41, li_42, li_43, li_45, li_47, li_48, li_57, li_58, li_59, li_60, li_61, li_62, li_63, li_74, li_75, li_84, li_91, li_93, li_98, li_100, li_103, li_105, li_107, li_109, li_110, li_111, li_112, li_115, li_118, li_119, li_120, li_121, li_124, li_140, li_180, li_206, li_240, li_255, li_420, li_520, li_999, li_1000, li_1771, li_8240, li_9999, li_88200, li_1000000, li_2097151, li_31, nI_add, pk_mul, zz_sub, zz_an, nI_clamp, zz_leT, zz_leF, zz_ltT, zz_ltF, zz_eqF, zz_eqT, zz_m1, zz_m2, zz_m3, zz_m4, zz_m5, zz_m6, zz_ck, zz_bl, zz_b3, zz_b2, zz_shl, zz_bt0, zz_bt1, pk_div, Nat.zero_add, Nat.add_zero, if_true, if_false, reduceIte, Nat.mul_zero, zz_or0, zz_inT, zz_inF, lwT, Nat.reduceAdd]
  | k + 2, h => by omega
theorem pm_highestO (f d : Nat) (I : am_I) (L : am_L) : ∀ k, k < 2 → fX12_highest f d (nI 111) (nI k) I L = some (nI (hgT (6 + k)), I, L)
  | 0, _ => by simp (disch := omega) only [fX12_highest, fX12_highest_b37, zz_lt, li_0, li_1, li_2, li_3, li_4, li_5, li_6, li_7, li_8, li_9, li_10, li_11, li_12, li_15, li_16, li_20, li_21, li_24, li_25, li_26, li_32, li_33, li_38, li_40, li_41, li_42, li_43, li_45, li_47, li_48, li_57, li_58, li_59, li_60, li_61, li_62, li_63, li_74, li_75, li_84, li_91, li_93, li_98, li_100, li_103, li_105, li_107, li_109, li_110, li_111, li_112, li_115, li_118, li_119, li_120, li_121, li_124, li_140, li_180, li_206, li_240, li_255, li_420, li_520, li_999, li_1000, li_1771, li_8240, li_9999, li_88200, li_1000000, li_2097151, li_31, nI_add, pk_mul, zz_sub, zz_an, nI_clamp, zz_leT, zz_leF, zz_ltT, zz_ltF, zz_eqF, zz_eqT, zz_m1, zz_m2, zz_m3, zz_m4, zz_m5, zz_m6, zz_ck, zz_bl, zz_b3, zz_b2, zz_shl, zz_bt0, zz_bt1, pk_div, Nat.zero_add, Nat.add_zero, if_true, if_false, reduceIte, Nat.mul_zero, zz_or0, zz_inT, zz_inF, hgT, Nat.reduceAdd]
  | 1, _ => by simp (disch := omega) only [fX12_highest, fX12_highest_b37, zz_lt, li_0, li_1, li_2, li_3, li_4, li_5, li_6, li_7, li_8, li_9, li_10, li_11, li_12, li_15, li_16, li_20, li_21, li_24, li_25, li_26, li_32, li_33, li_38, li_40, li_41, li_42, li_43, li_45, li_47, li_48, li_57, li_58, li_59, li_60, li_61, li_62, li_63, li_74, li_75, li_84, li_91, li_93, li_98, li_100, li_103, li_105, li_107, li_109, li_110, li_111, li_112, li_115, li_118, li_119, li_120, li_121, li_124, li_140, li_180, li_206, li_240, li_255, li_420, li_520, li_999, li_1000, li_1771, li_8240, li_9999, li_88200, li_1000000, li_2097151, li_31, nI_add, pk_mul, zz_sub, zz_an, nI_clamp, zz_leT, zz_leF, zz_ltT, zz_ltF, zz_eqF, zz_eqT, zz_m1, zz_m2, zz_m3, zz_m4, zz_m5, zz_m6, zz_ck, zz_bl, zz_b3, zz_b2, zz_shl, zz_bt0, zz_bt1, pk_div, Nat.zero_add, Nat.add_zero, if_true, if_false, reduceIte, Nat.mul_zero, zz_or0, zz_inT, zz_inF, hgT, Nat.reduceAdd]
  | k + 2, h => by omega
theorem ml_stopO (f d : Nat) (I : am_I) (L : am_L) (a1 a3 y : Int32) (a : Nat) (w : Int32) (G : Nat) : fX12_items_readOrchard_b41 f d (G + 1) a1 a3 y (-nI 1) (mp I a w) L = some (mp I a w, L) := by
  have h4 := mp_4 I a w
  by_cases c : w = -nI 1 <;> simp (disch := omega) only [fX12_items_readOrchard_b41, fX12_items_readOrchard_b41w, zz_lt, li_0, li_1, li_2, li_3, li_4, li_5, li_6, li_7, li_8, li_9, li_10, li_11, li_12, li_15, li_16, li_20, li_21, li_24, li_25, li_26, li_32, li_33, li_38, li_40, li_41, li_42, li_43, li_45, li_47, li_48, li_57, li_58, li_59, li_60, li_61, li_62, li_63, li_74, li_75, li_84, li_91, li_93, li_98, li_100, li_103, li_105, li_107, li_109, li_110, li_111, li_112, li_115, li_118, li_119, li_120, li_121, li_124, li_140, li_180, li_206, li_240, li_255, li_420, li_520, li_999, li_1000, li_1771, li_8240, li_9999, li_88200, li_1000000, li_2097151, li_31, nI_add, pk_mul, zz_sub, zz_an, nI_clamp, zz_leT, zz_leF, zz_ltT, zz_ltF, zz_eqF, zz_eqT, zz_m1, zz_m2, zz_m3, zz_m4, zz_m5, zz_m6, zz_ck, zz_bl, zz_b3, zz_b2, zz_shl, zz_bt0, zz_bt1, pk_div, Nat.zero_add, Nat.add_zero, if_true, if_false, reduceIte, Nat.mul_zero, zz_or0, zz_inT, zz_inF, mp_4, c]
theorem ml_badO (f d : Nat) (I : am_I) (L : am_L) (a1 a3 y a6 : Int32) (a : Nat) {b : Nat} (hb : b < 1000) (G : Nat) : fX12_items_readOrchard_b41 f d (G + 1) a1 a3 y a6 (mp I a (nI b)) L = some (mp I a (nI b), L) := by
  have h4 := mp_4 I a (nI b)
  simp (disch := omega) only [fX12_items_readOrchard_b41, fX12_items_readOrchard_b41w, zz_lt, li_0, li_1, li_2, li_3, li_4, li_5, li_6, li_7, li_8, li_9, li_10, li_11, li_12, li_15, li_16, li_20, li_21, li_24, li_25, li_26, li_32, li_33, li_38, li_40, li_41, li_42, li_43, li_45, li_47, li_48, li_57, li_58, li_59, li_60, li_61, li_62, li_63, li_74, li_75, li_84, li_91, li_93, li_98, li_100, li_103, li_105, li_107, li_109, li_110, li_111, li_112, li_115, li_118, li_119, li_120, li_121, li_124, li_140, li_180, li_206, li_240, li_255, li_420, li_520, li_999, li_1000, li_1771, li_8240, li_9999, li_88200, li_1000000, li_2097151, li_31, nI_add, pk_mul, zz_sub, zz_an, nI_clamp, zz_leT, zz_leF, zz_ltT, zz_ltF, zz_eqF, zz_eqT, zz_m1, zz_m2, zz_m3, zz_m4, zz_m5, zz_m6, zz_ck, zz_bl, zz_b3, zz_b2, zz_shl, zz_bt0, zz_bt1, pk_div, Nat.zero_add, Nat.add_zero, if_true, if_false, reduceIte, Nat.mul_zero, zz_or0, zz_inT, zz_inF, h4]
theorem ml_seenO (f d : Nat) (I : am_I) (L : am_L) (a1 a3 y : Int32) (a : Nat) {k : Nat} (hk : k < 30) (hs : bt y k = true) (G : Nat) : fX12_items_readOrchard_b41 f d (G + 1) a1 a3 y (nI k) (mp I a (-nI 1)) L = some (mp I a (-nI 1), L) := by
  have h4 := mp_4 I a (-nI 1)
  have hh := pm_has f d y k (mp I a (-nI 1)) L (by omega)
  rw [hs] at hh
  simp (disch := omega) only [fX12_items_readOrchard_b41, fX12_items_readOrchard_b41w, zz_lt, li_0, li_1, li_2, li_3, li_4, li_5, li_6, li_7, li_8, li_9, li_10, li_11, li_12, li_15, li_16, li_20, li_21, li_24, li_25, li_26, li_32, li_33, li_38, li_40, li_41, li_42, li_43, li_45, li_47, li_48, li_57, li_58, li_59, li_60, li_61, li_62, li_63, li_74, li_75, li_84, li_91, li_93, li_98, li_100, li_103, li_105, li_107, li_109, li_110, li_111, li_112, li_115, li_118, li_119, li_120, li_121, li_124, li_140, li_180, li_206, li_240, li_255, li_420, li_520, li_999, li_1000, li_1771, li_8240, li_9999, li_88200, li_1000000, li_2097151, li_31, nI_add, pk_mul, zz_sub, zz_an, nI_clamp, zz_leT, zz_leF, zz_ltT, zz_ltF, zz_eqF, zz_eqT, zz_m1, zz_m2, zz_m3, zz_m4, zz_m5, zz_m6, zz_ck, zz_bl, zz_b3, zz_b2, zz_shl, zz_bt0, zz_bt1, pk_div, Nat.zero_add, Nat.add_zero, if_true, if_false, reduceIte, Nat.mul_zero, zz_or0, zz_inT, zz_inF, h4, hh, Bool.toNat_true]
theorem ml_numO {n : Nat} {t : Nat → Nat} (hG : GT n t) (f d : Nat) (hf : 300 < f) {J : am_I} (h : TM J n t) (L : am_L) (y : Int32) {o p k : Nat} (ho : o + 2 ≤ 12) (hp : p < n) (hk : k < 2) (hs : bt y k = false) (G : Nat) : ∃ v' a', fX12_items_readOrchard_b41 f d (G + 1 + 1) (nI 111) (nI o) y (nI k) (mp J p (-nI 1)) L = (if nOk n t (lwT (6 + k)) (hgT (6 + k)) (nb n t (p + 1)) = true then fX12_items_readOrchard_b41 f d (G + 1) (nI 111) (nI o) (y ||| nI (2 ^ k)) (zn (itR 6 2 (bx n t (nb n t (nE n t (nb n t (p + 1)) + 1))))) (mp (am_up J 12 (o + k) (nI (nV n t (nb n t (p + 1))))) (nb n t (nE n t (nb n t (p + 1)) + 1)) (-nI 1)) L else some (mp (am_up J 12 (o + k) v') a' (nI (nF n t (nb n t (p + 1)))), L)) ∧ a' ≤ 300 := by
  have g := hG.1
  have h4 := mp_4 J p (-nI 1)
  have h3 := mp_3 J p (-nI 1)
  have hh := pm_has f d y k (mp J p (-nI 1)) L (by omega)
  rw [hs] at hh
  have lw := pm_lowestO f d (mp J (p + 1) (-nI 1)) L k hk
  have hi := pm_highestO f d (mp J (p + 1) (-nI 1)) L k hk
  have h20 := hg_le (6 + k) (by omega)
  have wi := wi_in (6 + k) (by omega)
  have np := nb_le (n := n) (t := t) (i := p + 1) (by omega)
  obtain ⟨v', a', n1, n2⟩ := pm_num hG f d hf h L (a := p + 1) (p := nb n t (p + 1)) (lo := lwT (6 + k)) (hi := hgT (6 + k)) (by omega) rfl (by omega) (by omega)
  refine ⟨v', a', ?_, n2⟩
  cases c1 : nOk n t (lwT (6 + k)) (hgT (6 + k)) (nb n t (p + 1))
  · rw [c1, if_neg (by decide)] at n1
    rw [if_neg (by decide)]
    have fl := nF_le hG np
    have mu := mp_upk J a' (nI (nF n t (nb n t (p + 1)))) (k := 12) (j := o + k) v' (by omega)
    have h5 := mp_4 (am_up J 12 (o + k) v') a' (nI (nF n t (nb n t (p + 1))))
    have st := ml_badO f d (am_up J 12 (o + k) v') L (nI 111) (nI o) (y ||| nI (2 ^ k)) (-nI 1) a' (b := nF n t (nb n t (p + 1))) (by omega) G
    rw [← st]
    (try simp only [Nat.zero_add] at n1)
    rw [show fX12_items_readOrchard_b41 f d (G + 1 + 1) = fX12_items_readOrchard_b41w f d (fX12_items_readOrchard_b41 f d (G + 1)) from rfl]
    generalize fX12_items_readOrchard_b41 f d (G + 1) = KK
    simp (disch := omega) only [fX12_items_readOrchard_b41w, fX12_items_readOrchard_b126, zz_lt, li_0, li_1, li_2, li_3, li_4, li_5, li_6, li_7, li_8, li_9, li_10, li_11, li_12, li_15, li_16, li_20, li_21, li_24, li_25, li_26, li_32, li_33, li_38, li_40, li_41, li_42, li_43, li_45, li_47, li_48, li_57, li_58, li_59, li_60, li_61, li_62, li_63, li_74, li_75, li_84, li_91, li_93, li_98, li_100, li_103, li_105, li_107, li_109, li_110, li_111, li_112, li_115, li_118, li_119, li_120, li_121, li_124, li_140, li_180, li_206, li_240, li_255, li_420, li_520, li_999, li_1000, li_1771, li_8240, li_9999, li_88200, li_1000000, li_2097151, li_31, nI_add, pk_mul, zz_sub, zz_an, nI_clamp, zz_leT, zz_leF, zz_ltT, zz_ltF, zz_eqF, zz_eqT, zz_m1, zz_m2, zz_m3, zz_m4, zz_m5, zz_m6, zz_ck, zz_bl, zz_b3, zz_b2, zz_shl, zz_bt0, zz_bt1, pk_div, Nat.zero_add, Nat.add_zero, if_true, if_false, reduceIte, Nat.mul_zero, zz_or0, zz_inT, zz_inF, h4, h3, hh, mp_up3, lw, hi, n1, mu, h5, Bool.toNat_false]
  · rw [c1, if_pos rfl] at n1
    rw [if_pos rfl]
    have dp : dg n t (nb n t (p + 1)) = true := by
      unfold nOk at c1
      cases z : dg n t (nb n t (p + 1))
      · rw [z, Bool.false_and] at c1; cases c1
      · rfl
    have ne := nE_le dp
    have nv := nV_le dp
    have mu := mp_upk J (nE n t (nb n t (p + 1)) + 1) (-nI 1) (k := 12) (j := o + k) (nI (nV n t (nb n t (p + 1)))) (by omega)
    have h5 := mp_4 (am_up J 12 (o + k) (nI (nV n t (nb n t (p + 1))))) (nE n t (nb n t (p + 1)) + 1) (-nI 1)
    have lk := pm_look hG f d hf (TM_up h (k := 12) (j := o + k) (v := nI (nV n t (nb n t (p + 1)))) (by omega)) L (-nI 1) (a := nE n t (nb n t (p + 1)) + 1) (by omega)
    have bl := bx_le hG (nb n t (nE n t (nb n t (p + 1)) + 1))
    have it := pm_itO f d (x := bx n t (nb n t (nE n t (nb n t (p + 1)) + 1))) (by omega) (mp (am_up J 12 (o + k) (nI (nV n t (nb n t (p + 1))))) (nb n t (nE n t (nb n t (p + 1)) + 1)) (-nI 1)) L
    (try simp only [Nat.zero_add] at n1)
    rw [show fX12_items_readOrchard_b41 f d (G + 1 + 1) = fX12_items_readOrchard_b41w f d (fX12_items_readOrchard_b41 f d (G + 1)) from rfl]
    generalize fX12_items_readOrchard_b41 f d (G + 1) = KK
    simp (disch := omega) only [fX12_items_readOrchard_b41w, fX12_items_readOrchard_b126, zz_lt, li_0, li_1, li_2, li_3, li_4, li_5, li_6, li_7, li_8, li_9, li_10, li_11, li_12, li_15, li_16, li_20, li_21, li_24, li_25, li_26, li_32, li_33, li_38, li_40, li_41, li_42, li_43, li_45, li_47, li_48, li_57, li_58, li_59, li_60, li_61, li_62, li_63, li_74, li_75, li_84, li_91, li_93, li_98, li_100, li_103, li_105, li_107, li_109, li_110, li_111, li_112, li_115, li_118, li_119, li_120, li_121, li_124, li_140, li_180, li_206, li_240, li_255, li_420, li_520, li_999, li_1000, li_1771, li_8240, li_9999, li_88200, li_1000000, li_2097151, li_31, nI_add, pk_mul, zz_sub, zz_an, nI_clamp, zz_leT, zz_leF, zz_ltT, zz_ltF, zz_eqF, zz_eqT, zz_m1, zz_m2, zz_m3, zz_m4, zz_m5, zz_m6, zz_ck, zz_bl, zz_b3, zz_b2, zz_shl, zz_bt0, zz_bt1, pk_div, Nat.zero_add, Nat.add_zero, if_true, if_false, reduceIte, Nat.mul_zero, zz_or0, zz_inT, zz_inF, h4, h3, hh, mp_up3, lw, hi, n1, mu, h5, lk, it, Bool.toNat_false]
def sJO (o k j : Nat) : Bool := k == 12 && decide (o ≤ j ∧ j < o + 2)
theorem sJO_t {o j : Nat} (h : o ≤ j ∧ j < o + 2) : sJO o 12 j = true := by simp [sJO, h]
/-- how both read the items of a clause -/
theorem it_bothO {n : Nat} {t : Nat → Nat} (hG : GT n t) (f d : Nat) (hf : 300 < f) (LC LM : am_L) {o : Nat} (ho : o + 2 ≤ 12) : ∀ (F G p c : Nat) (I J : am_I) (y : Int32) (val : Nat → Nat), n - p < F → n - p + 1 < G → p ≤ n → (p < n → t p ≠ 32) → c ≤ p → TC I n t → TM J n t → (∀ k, k < 2 → bt (I 25 3) (6 + k) = bt y k) → (∀ k, k < 2 → I 26 (6 + k) = nI (val k) ∧ J 12 (o + k) = nI (val k) ∧ lwT (6 + k) ≤ val k ∧ val k ≤ hgT (6 + k)) → ∃ (r : Nat) (I' J' : am_I) (a' : Nat) (w' : Int32) (p' : Nat) (val' : Nat → Nat), fX10_readItems_b21 f d F (nI 6) (nI (6 + 2)) (nI c) (cq I p) LC = some (nI r, cq I' p', LC) ∧ fX12_items_readOrchard_b41 f d G (nI 111) (nI o) y (zn (itR 6 2 (bx n t p))) (mp J p (-nI 1)) LM = some (mp J' a' w', LM) ∧ am_ag sIt I I' ∧ am_ag (sJO o) J J' ∧ ((r = 1 ∧ w' = -nI 1 ∧ a' = p' ∧ p' ≤ n ∧ (p' < n → t p' = 59) ∧ p ≤ p' ∧ (∀ k, k < 2 → I' 26 (6 + k) = nI (val' k) ∧ J' 12 (o + k) = nI (val' k) ∧ lwT (6 + k) ≤ val' k ∧ val' k ≤ hgT (6 + k))) ∨ (r = 0 ∧ a' ≤ 300 ∧ p' ≤ 300 ∧ (w' = nI p' ∨ (w' = -nI 1 ∧ a' = p' ∧ p' < n ∧ t p' ≠ 59 ∧ t p' ≠ 32))))
  | 0, _, _, _, _, _, _, _, fu, _, _, _, _, _, _, _, _ => by omega
  | _, 0, _, _, _, _, _, _, _, fu, _, _, _, _, _, _, _ => by omega
  | _, 1, _, _, _, _, _, _, _, fu, _, _, _, _, _, _, _ => by omega
  | F + 1, G + 2, p, c, I, J, y, val, fu, fg, hp, hb, hc, hI, hJ, hs, hv => by
    have g := hG.1
    have stp := ml_stopO f d J LM (nI 111) (nI o) y p (-nI 1) (G + 1)
    by_cases ce : p < n → t p = 59
    · have c1 := cl_end hG f d hI LC (nI 6) (nI (6 + 2)) (c := c) (p := p) (by omega) hp ce F
      refine ⟨1, I, J, p, -nI 1, p, val, c1, ?_, ag_rf, ag_rf, Or.inl ⟨rfl, rfl, rfl, hp, ce, Nat.le_refl _, hv⟩⟩
      have z : itR 6 2 (bx n t p) = 0 := by
        by_cases c2 : p < n
        · rw [bx_lt c2, ce c2]; rfl
        · rw [bx_ge (by omega)]; rfl
      rw [z, en_0]
      exact stp
    · have hpn : p < n := by
        by_cases z : p < n
        · exact z
        · exact absurd (fun q => absurd q z) ce
      have h59 : t p ≠ 59 := fun z => ce (fun _ => z)
      have h32 := hb hpn
      have g2 := hG.2 p hpn
      have il := io10_le (t p) (by omega)
      rw [bx_lt hpn]
      by_cases ci : 6 + 1 ≤ io10 (t p) ∧ io10 (t p) ≤ 6 + 2
      · obtain ⟨k, hk⟩ : ∃ k, io10 (t p) = 6 + k + 1 := ⟨io10 (t p) - (6 + 1), by omega⟩
        have kc : k < 2 := by omega
        have zi : itR 6 2 (t p + 1) = k + 1 := by
          unfold itR
          rw [if_neg (by omega), Nat.add_sub_cancel, if_pos ci]
          omega
        rw [zi, en_s]
        have sk := hs k kc
        cases cs : bt y k
        · rw [cs] at sk
          have c1 := cl_num hG f d hf hI LC (β := 6) (cnt := 2) (c := c) (p := p) (k := k) (by omega) (by omega) hpn kc hk sk F
          obtain ⟨v', a', m1, m2⟩ := ml_numO hG f d hf hJ LM y (o := o) (p := p) (k := k) ho hpn kc cs G
          have np := nb_le (n := n) (t := t) (i := p + 1) (by omega)
          cases cn : nOk n t (lwT (6 + k)) (hgT (6 + k)) (nb n t (p + 1))
          · rw [cn, if_neg (by decide)] at c1 m1
            exact ⟨0, _, _, a', _, nF n t (nb n t (p + 1)), val, c1, m1, ag_up ag_rf rfl, ag_up ag_rf (sJO_t (by omega)), Or.inr ⟨rfl, m2, nF_le hG np, Or.inl rfl⟩⟩
          · rw [cn, if_pos rfl] at c1 m1
            have dp : dg n t (nb n t (p + 1)) = true := by
              unfold nOk at cn
              cases z : dg n t (nb n t (p + 1))
              · rw [z, Bool.false_and] at cn; cases cn
              · rfl
            have vb : lwT (6 + k) ≤ nV n t (nb n t (p + 1)) ∧ nV n t (nb n t (p + 1)) ≤ hgT (6 + k) := by
              exact nOk_v cn
            have ne := nE_le dp
            have ge := nb_ge n t (p + 1)
            have ge2 := nb_ge n t (nE n t (nb n t (p + 1)) + 1)
            have le2 := nb_le (n := n) (t := t) (i := nE n t (nb n t (p + 1)) + 1) (by omega)
            obtain ⟨r, I', J', a2, w', p', val', z1, z2, z3, z4, z5⟩ := it_bothO hG f d hf LC LM ho F (G + 1) (nb n t (nE n t (nb n t (p + 1)) + 1)) (c + 1) (am_up (am_up I 25 3 (I 25 3 ||| nI (2 ^ (6 + k)))) 26 (6 + k) (nI (nV n t (nb n t (p + 1))))) (am_up J 12 (o + k) (nI (nV n t (nb n t (p + 1))))) (y ||| nI (2 ^ k)) (un val k (nV n t (nb n t (p + 1)))) (by omega) (by omega) le2 (fun z => nb_no (by omega) z) (by omega) (TC_up (TC_up hI (by omega)) (by omega)) (TM_up hJ (by omega)) (fun i hi => by
              rw [am_up_ne (by omega), up_s rfl, or_bit (by omega) (by omega), or_bit (by omega) (by omega), hs i hi]
              congr 1
              by_cases q : i = k
              · subst q; simp
              · rw [decide_eq_false (by omega), decide_eq_false q]) (fun i hi => by
              have := hv i hi
              unfold un
              by_cases q : i = k
              · subst q
                rw [if_pos rfl, up_s rfl, up_s rfl]
                exact ⟨rfl, rfl, vb⟩
              · rw [if_neg q, up_n (by omega), up_n (by omega), am_up_ne (by omega)]
                exact this)
            refine ⟨r, I', J', a2, w', p', val', by rw [c1]; exact z1, by rw [m1]; exact z2, ag_tr (ag_up (ag_up ag_rf rfl) sIt_26) z3, ag_tr (ag_up ag_rf (sJO_t (by omega))) z4, ?_⟩
            rcases z5 with ⟨q1, q2, q3, q4, q5, q6, q7⟩ | q
            · exact Or.inl ⟨q1, q2, q3, q4, q5, by omega, q7⟩
            · exact Or.inr q
        · rw [cs] at sk
          have c1 := cl_seen hG f d hf hI LC (β := 6) (cnt := 2) (c := c) (p := p) (k := k) (by omega) (by omega) hpn kc hk sk F
          have m1 := ml_seenO f d J LM (nI 111) (nI o) y p (k := k) (by omega) cs (G + 1)
          exact ⟨0, I, J, p, -nI 1, p, val, c1, m1, ag_rf, ag_rf, Or.inr ⟨rfl, by omega, by omega, Or.inr ⟨rfl, rfl, hpn, h59, h32⟩⟩⟩
      · have c1 := cl_out hG f d hf hI LC (β := 6) (cnt := 2) (c := c) (p := p) (by omega) (by omega) hpn h59 ci F
        have zi : itR 6 2 (t p + 1) = 0 := by
          unfold itR
          rw [if_neg (by omega), Nat.add_sub_cancel, if_neg ci]
        rw [zi, en_0]
        exact ⟨0, I, J, p, -nI 1, p, val, c1, stp, ag_rf, ag_rf, Or.inr ⟨rfl, by omega, by omega, Or.inr ⟨rfl, rfl, hpn, h59, h32⟩⟩⟩
def pm_itHp (v : Int32) : Int32 := (if v = (112 : Int32) then nI 0 else (if v = (103 : Int32) then nI 1 else -nI 1))
theorem pm_itHq (f d : Nat) (v : Int32) (I : am_I) (L : am_L) : fX12_itemOf f d (nI 119) v I L = some (pm_itHp v, I, L) := by
  unfold fX12_itemOf
  rw [if_neg (by decide), if_neg (by decide)]
  unfold pm_itHp
  by_cases c0 : v = (112 : Int32)
  · rw [if_pos c0, if_pos c0]; rfl
  rw [if_neg c0, if_neg c0]
  by_cases c1 : v = (103 : Int32)
  · rw [if_pos c1, if_pos c1]; rfl
  rw [if_neg c1, if_neg c1]
  rfl
theorem pm_itHt : ∀ x, x < 257 → pm_itHp (zn x) = zn (itR 8 2 x) := by decide +kernel
theorem pm_itH (f d : Nat) {x : Nat} (hx : x < 257) (I : am_I) (L : am_L) : fX12_itemOf f d (nI 119) (zn x) I L = some (zn (itR 8 2 x), I, L) := by rw [pm_itHq, pm_itHt x hx]
theorem pm_usualH (f d : Nat) (I : am_I) (L : am_L) : ∀ k, k < 2 → fX12_usual f d (nI 119) (nI k) I L = some (nI (wiT (8 + k)), I, L)
  | 0, _ => by simp (disch := omega) only [fX12_usual, zz_lt, li_0, li_1, li_2, li_3, li_4, li_5, li_6, li_7, li_8, li_9, li_10, li_11, li_12, li_15, li_16, li_20, li_21, li_24, li_25, li_26, li_32, li_33, li_38, li_40, li_41, li_42, li_43, li_45, li_47, li_48, li_57, li_58, li_59, li_60, li_61, li_62, li_63, li_74, li_75, li_84, li_91, li_93, li_98, li_100, li_103, li_105, li_107, li_109, li_110, li_111, li_112, li_115, li_118, li_119, li_120, li_121, li_124, li_140, li_180, li_206, li_240, li_255, li_420, li_520, li_999, li_1000, li_1771, li_8240, li_9999, li_88200, li_1000000, li_2097151, li_31, nI_add, pk_mul, zz_sub, zz_an, nI_clamp, zz_leT, zz_leF, zz_ltT, zz_ltF, zz_eqF, zz_eqT, zz_m1, zz_m2, zz_m3, zz_m4, zz_m5, zz_m6, zz_ck, zz_bl, zz_b3, zz_b2, zz_shl, zz_bt0, zz_bt1, pk_div, Nat.zero_add, Nat.add_zero, if_true, if_false, reduceIte, Nat.mul_zero, zz_or0, zz_inT, zz_inF, wiT, Nat.reduceAdd]
  | 1, _ => by simp (disch := omega) only [fX12_usual, zz_lt, li_0, li_1, li_2, li_3, li_4, li_5, li_6, li_7, li_8, li_9, li_10, li_11, li_12, li_15, li_16, li_20, li_21, li_24, li_25, li_26, li_32, li_33, li_38, li_40, li_41, li_42, li_43, li_45, li_47, li_48, li_57, li_58, li_59, li_60, li_61, li_62, li_63, li_74, li_75, li_84, li_91, li_93, li_98, li_100, li_103, li_105, li_107, li_109, li_110, li_111, li_112, li_115, li_118, li_119, li_120, li_121, li_124, li_140, li_180, li_206, li_240, li_255, li_420, li_520, li_999, li_1000, li_1771, li_8240, li_9999, li_88200, li_1000000, li_2097151, li_31, nI_add, pk_mul, zz_sub, zz_an, nI_clamp, zz_leT, zz_leF, zz_ltT, zz_ltF, zz_eqF, zz_eqT, zz_m1, zz_m2, zz_m3, zz_m4, zz_m5, zz_m6, zz_ck, zz_bl, zz_b3, zz_b2, zz_shl, zz_bt0, zz_bt1, pk_div, Nat.zero_add, Nat.add_zero, if_true, if_false, reduceIte, Nat.mul_zero, zz_or0, zz_inT, zz_inF, wiT, Nat.reduceAdd]
  | k + 2, h => by omega
theorem pm_lowestH (f d : Nat) (I : am_I) (L : am_L) : ∀ k, k < 2 → fX12_lowest f d (nI 119) (nI k) I L = some (nI (lwT (8 + k)), I, L)
  | 0, _ => by simp (disch := omega) only [fX12_lowest, fX12_lowest_b17, zz_lt, li_0, li_1, li_2, li_3, li_4, li_5, li_6, li_7, li_8, li_9, li_10, li_11, li_12, li_15, li_16, li_20, li_21, li_24, li_25, li_26, li_32, li_33, li_38, li_40, li_41, li_42, li_43, li_45, li_47, li_48, li_57, li_58, li_59, li_60, li_61, li_62, li_63, li_74, li_75, li_84, li_91, li_93, li_98, li_100, li_103, li_105, li_107, li_109, li_110, li_111, li_112, li_115, li_118, li_119, li_120, li_121, li_124, li_140, li_180, li_206, li_240, li_255, li_420, li_520, li_999, li_1000, li_1771, li_8240, li_9999, li_88200, li_1000000, li_2097151, li_31, nI_add, pk_mul, zz_sub, zz_an, nI_clamp, zz_leT, zz_leF, zz_ltT, zz_ltF, zz_eqF, zz_eqT, zz_m1, zz_m2, zz_m3, zz_m4, zz_m5, zz_m6, zz_ck, zz_bl, zz_b3, zz_b2, zz_shl, zz_bt0, zz_bt1, pk_div, Nat.zero_add, Nat.add_zero, if_true, if_false, reduceIte, Nat.mul_zero, zz_or0, zz_inT, zz_inF, lwT, Nat.reduceAdd]
  | 1, _ => by simp (disch := omega) only [fX12_lowest, fX12_lowest_b17, zz_lt, li_0, li_1, li_2, li_3, li_4, li_5, li_6, li_7, li_8, li_9, li_10, li_11, li_12, li_15, li_16, li_20, li_21, li_24, li_25, li_26, li_32, li_33, li_38, li_40, li_41, li_42, li_43, li_45, li_47, li_48, li_57, li_58, li_59, li_60, li_61, li_62, li_63, li_74, li_75, li_84, li_91, li_93, li_98, li_100, li_103, li_105, li_107, li_109, li_110, li_111, li_112, li_115, li_118, li_119, li_120, li_121, li_124, li_140, li_180, li_206, li_240, li_255, li_420, li_520, li_999, li_1000, li_1771, li_8240, li_9999, li_88200, li_1000000, li_2097151, li_31, nI_add, pk_mul, zz_sub, zz_an, nI_clamp, zz_leT, zz_leF, zz_ltT, zz_ltF, zz_eqF, zz_eqT, zz_m1, zz_m2, zz_m3, zz_m4, zz_m5, zz_m6, zz_ck, zz_bl, zz_b3, zz_b2, zz_shl, zz_bt0, zz_bt1, pk_div, Nat.zero_add, Nat.add_zero, if_true, if_false, reduceIte, Nat.mul_zero, zz_or0, zz_inT, zz_inF, lwT, Nat.reduceAdd]
  | k + 2, h => by omega
theorem pm_highestH (f d : Nat) (I : am_I) (L : am_L) : ∀ k, k < 2 → fX12_highest f d (nI 119) (nI k) I L = some (nI (hgT (8 + k)), I, L)
  | 0, _ => by simp (disch := omega) only [fX12_highest, fX12_highest_b37, zz_lt, li_0, li_1, li_2, li_3, li_4, li_5, li_6, li_7, li_8, li_9, li_10, li_11, li_12, li_15, li_16, li_20, li_21, li_24, li_25, li_26, li_32, li_33, li_38, li_40, li_41, li_42, li_43, li_45, li_47, li_48, li_57, li_58, li_59, li_60, li_61, li_62, li_63, li_74, li_75, li_84, li_91, li_93, li_98, li_100, li_103, li_105, li_107, li_109, li_110, li_111, li_112, li_115, li_118, li_119, li_120, li_121, li_124, li_140, li_180, li_206, li_240, li_255, li_420, li_520, li_999, li_1000, li_1771, li_8240, li_9999, li_88200, li_1000000, li_2097151, li_31, nI_add, pk_mul, zz_sub, zz_an, nI_clamp, zz_leT, zz_leF, zz_ltT, zz_ltF, zz_eqF, zz_eqT, zz_m1, zz_m2, zz_m3, zz_m4, zz_m5, zz_m6, zz_ck, zz_bl, zz_b3, zz_b2, zz_shl, zz_bt0, zz_bt1, pk_div, Nat.zero_add, Nat.add_zero, if_true, if_false, reduceIte, Nat.mul_zero, zz_or0, zz_inT, zz_inF, hgT, Nat.reduceAdd]
  | 1, _ => by simp (disch := omega) only [fX12_highest, fX12_highest_b37, zz_lt, li_0, li_1, li_2, li_3, li_4, li_5, li_6, li_7, li_8, li_9, li_10, li_11, li_12, li_15, li_16, li_20, li_21, li_24, li_25, li_26, li_32, li_33, li_38, li_40, li_41, li_42, li_43, li_45, li_47, li_48, li_57, li_58, li_59, li_60, li_61, li_62, li_63, li_74, li_75, li_84, li_91, li_93, li_98, li_100, li_103, li_105, li_107, li_109, li_110, li_111, li_112, li_115, li_118, li_119, li_120, li_121, li_124, li_140, li_180, li_206, li_240, li_255, li_420, li_520, li_999, li_1000, li_1771, li_8240, li_9999, li_88200, li_1000000, li_2097151, li_31, nI_add, pk_mul, zz_sub, zz_an, nI_clamp, zz_leT, zz_leF, zz_ltT, zz_ltF, zz_eqF, zz_eqT, zz_m1, zz_m2, zz_m3, zz_m4, zz_m5, zz_m6, zz_ck, zz_bl, zz_b3, zz_b2, zz_shl, zz_bt0, zz_bt1, pk_div, Nat.zero_add, Nat.add_zero, if_true, if_false, reduceIte, Nat.mul_zero, zz_or0, zz_inT, zz_inF, hgT, Nat.reduceAdd]
  | k + 2, h => by omega
theorem ml_stopH (f d : Nat) (I : am_I) (L : am_L) (a1 a3 y : Int32) (a : Nat) (w : Int32) (G : Nat) : fX12_items_readHow_b41 f d (G + 1) a1 a3 y (-nI 1) (mp I a w) L = some (mp I a w, L) := by
  have h4 := mp_4 I a w
  by_cases c : w = -nI 1 <;> simp (disch := omega) only [fX12_items_readHow_b41, fX12_items_readHow_b41w, zz_lt, li_0, li_1, li_2, li_3, li_4, li_5, li_6, li_7, li_8, li_9, li_10, li_11, li_12, li_15, li_16, li_20, li_21, li_24, li_25, li_26, li_32, li_33, li_38, li_40, li_41, li_42, li_43, li_45, li_47, li_48, li_57, li_58, li_59, li_60, li_61, li_62, li_63, li_74, li_75, li_84, li_91, li_93, li_98, li_100, li_103, li_105, li_107, li_109, li_110, li_111, li_112, li_115, li_118, li_119, li_120, li_121, li_124, li_140, li_180, li_206, li_240, li_255, li_420, li_520, li_999, li_1000, li_1771, li_8240, li_9999, li_88200, li_1000000, li_2097151, li_31, nI_add, pk_mul, zz_sub, zz_an, nI_clamp, zz_leT, zz_leF, zz_ltT, zz_ltF, zz_eqF, zz_eqT, zz_m1, zz_m2, zz_m3, zz_m4, zz_m5, zz_m6, zz_ck, zz_bl, zz_b3, zz_b2, zz_shl, zz_bt0, zz_bt1, pk_div, Nat.zero_add, Nat.add_zero, if_true, if_false, reduceIte, Nat.mul_zero, zz_or0, zz_inT, zz_inF, mp_4, c]
theorem ml_badH (f d : Nat) (I : am_I) (L : am_L) (a1 a3 y a6 : Int32) (a : Nat) {b : Nat} (hb : b < 1000) (G : Nat) : fX12_items_readHow_b41 f d (G + 1) a1 a3 y a6 (mp I a (nI b)) L = some (mp I a (nI b), L) := by
  have h4 := mp_4 I a (nI b)
  simp (disch := omega) only [fX12_items_readHow_b41, fX12_items_readHow_b41w, zz_lt, li_0, li_1, li_2, li_3, li_4, li_5, li_6, li_7, li_8, li_9, li_10, li_11, li_12, li_15, li_16, li_20, li_21, li_24, li_25, li_26, li_32, li_33, li_38, li_40, li_41, li_42, li_43, li_45, li_47, li_48, li_57, li_58, li_59, li_60, li_61, li_62, li_63, li_74, li_75, li_84, li_91, li_93, li_98, li_100, li_103, li_105, li_107, li_109, li_110, li_111, li_112, li_115, li_118, li_119, li_120, li_121, li_124, li_140, li_180, li_206, li_240, li_255, li_420, li_520, li_999, li_1000, li_1771, li_8240, li_9999, li_88200, li_1000000, li_2097151, li_31, nI_add, pk_mul, zz_sub, zz_an, nI_clamp, zz_leT, zz_leF, zz_ltT, zz_ltF, zz_eqF, zz_eqT, zz_m1, zz_m2, zz_m3, zz_m4, zz_m5, zz_m6, zz_ck, zz_bl, zz_b3, zz_b2, zz_shl, zz_bt0, zz_bt1, pk_div, Nat.zero_add, Nat.add_zero, if_true, if_false, reduceIte, Nat.mul_zero, zz_or0, zz_inT, zz_inF, h4]
theorem ml_seenH (f d : Nat) (I : am_I) (L : am_L) (a1 a3 y : Int32) (a : Nat) {k : Nat} (hk : k < 30) (hs : bt y k = true) (G : Nat) : fX12_items_readHow_b41 f d (G + 1) a1 a3 y (nI k) (mp I a (-nI 1)) L = some (mp I a (-nI 1), L) := by
  have h4 := mp_4 I a (-nI 1)
  have hh := pm_has f d y k (mp I a (-nI 1)) L (by omega)
  rw [hs] at hh
  simp (disch := omega) only [fX12_items_readHow_b41, fX12_items_readHow_b41w, zz_lt, li_0, li_1, li_2, li_3, li_4, li_5, li_6, li_7, li_8, li_9, li_10, li_11, li_12, li_15, li_16, li_20, li_21, li_24, li_25, li_26, li_32, li_33, li_38, li_40, li_41, li_42, li_43, li_45, li_47, li_48, li_57, li_58, li_59, li_60, li_61, li_62, li_63, li_74, li_75, li_84, li_91, li_93, li_98, li_100, li_103, li_105, li_107, li_109, li_110, li_111, li_112, li_115, li_118, li_119, li_120, li_121, li_124, li_140, li_180, li_206, li_240, li_255, li_420, li_520, li_999, li_1000, li_1771, li_8240, li_9999, li_88200, li_1000000, li_2097151, li_31, nI_add, pk_mul, zz_sub, zz_an, nI_clamp, zz_leT, zz_leF, zz_ltT, zz_ltF, zz_eqF, zz_eqT, zz_m1, zz_m2, zz_m3, zz_m4, zz_m5, zz_m6, zz_ck, zz_bl, zz_b3, zz_b2, zz_shl, zz_bt0, zz_bt1, pk_div, Nat.zero_add, Nat.add_zero, if_true, if_false, reduceIte, Nat.mul_zero, zz_or0, zz_inT, zz_inF, h4, hh, Bool.toNat_true]
theorem ml_numH {n : Nat} {t : Nat → Nat} (hG : GT n t) (f d : Nat) (hf : 300 < f) {J : am_I} (h : TM J n t) (L : am_L) (y : Int32) {o p k : Nat} (ho : o + 2 ≤ 2) (hp : p < n) (hk : k < 2) (hs : bt y k = false) (G : Nat) : ∃ v' a', fX12_items_readHow_b41 f d (G + 1 + 1) (nI 119) (nI o) y (nI k) (mp J p (-nI 1)) L = (if nOk n t (lwT (8 + k)) (hgT (8 + k)) (nb n t (p + 1)) = true then fX12_items_readHow_b41 f d (G + 1) (nI 119) (nI o) (y ||| nI (2 ^ k)) (zn (itR 8 2 (bx n t (nb n t (nE n t (nb n t (p + 1)) + 1))))) (mp (am_up J 13 (o + k) (nI (nV n t (nb n t (p + 1))))) (nb n t (nE n t (nb n t (p + 1)) + 1)) (-nI 1)) L else some (mp (am_up J 13 (o + k) v') a' (nI (nF n t (nb n t (p + 1)))), L)) ∧ a' ≤ 300 := by
  have g := hG.1
  have h4 := mp_4 J p (-nI 1)
  have h3 := mp_3 J p (-nI 1)
  have hh := pm_has f d y k (mp J p (-nI 1)) L (by omega)
  rw [hs] at hh
  have lw := pm_lowestH f d (mp J (p + 1) (-nI 1)) L k hk
  have hi := pm_highestH f d (mp J (p + 1) (-nI 1)) L k hk
  have h20 := hg_le (8 + k) (by omega)
  have wi := wi_in (8 + k) (by omega)
  have np := nb_le (n := n) (t := t) (i := p + 1) (by omega)
  obtain ⟨v', a', n1, n2⟩ := pm_num hG f d hf h L (a := p + 1) (p := nb n t (p + 1)) (lo := lwT (8 + k)) (hi := hgT (8 + k)) (by omega) rfl (by omega) (by omega)
  refine ⟨v', a', ?_, n2⟩
  cases c1 : nOk n t (lwT (8 + k)) (hgT (8 + k)) (nb n t (p + 1))
  · rw [c1, if_neg (by decide)] at n1
    rw [if_neg (by decide)]
    have fl := nF_le hG np
    have mu := mp_upk J a' (nI (nF n t (nb n t (p + 1)))) (k := 13) (j := o + k) v' (by omega)
    have h5 := mp_4 (am_up J 13 (o + k) v') a' (nI (nF n t (nb n t (p + 1))))
    have st := ml_badH f d (am_up J 13 (o + k) v') L (nI 119) (nI o) (y ||| nI (2 ^ k)) (-nI 1) a' (b := nF n t (nb n t (p + 1))) (by omega) G
    rw [← st]
    (try simp only [Nat.zero_add] at n1)
    rw [show fX12_items_readHow_b41 f d (G + 1 + 1) = fX12_items_readHow_b41w f d (fX12_items_readHow_b41 f d (G + 1)) from rfl]
    generalize fX12_items_readHow_b41 f d (G + 1) = KK
    simp (disch := omega) only [fX12_items_readHow_b41w, fX12_items_readHow_b126, zz_lt, li_0, li_1, li_2, li_3, li_4, li_5, li_6, li_7, li_8, li_9, li_10, li_11, li_12, li_15, li_16, li_20, li_21, li_24, li_25, li_26, li_32, li_33, li_38, li_40, li_41, li_42, li_43, li_45, li_47, li_48, li_57, li_58, li_59, li_60, li_61, li_62, li_63, li_74, li_75, li_84, li_91, li_93, li_98, li_100, li_103, li_105, li_107, li_109, li_110, li_111, li_112, li_115, li_118, li_119, li_120, li_121, li_124, li_140, li_180, li_206, li_240, li_255, li_420, li_520, li_999, li_1000, li_1771, li_8240, li_9999, li_88200, li_1000000, li_2097151, li_31, nI_add, pk_mul, zz_sub, zz_an, nI_clamp, zz_leT, zz_leF, zz_ltT, zz_ltF, zz_eqF, zz_eqT, zz_m1, zz_m2, zz_m3, zz_m4, zz_m5, zz_m6, zz_ck, zz_bl, zz_b3, zz_b2, zz_shl, zz_bt0, zz_bt1, pk_div, Nat.zero_add, Nat.add_zero, if_true, if_false, reduceIte, Nat.mul_zero, zz_or0, zz_inT, zz_inF, h4, h3, hh, mp_up3, lw, hi, n1, mu, h5, Bool.toNat_false]
  · rw [c1, if_pos rfl] at n1
    rw [if_pos rfl]
    have dp : dg n t (nb n t (p + 1)) = true := by
      unfold nOk at c1
      cases z : dg n t (nb n t (p + 1))
      · rw [z, Bool.false_and] at c1; cases c1
      · rfl
    have ne := nE_le dp
    have nv := nV_le dp
    have mu := mp_upk J (nE n t (nb n t (p + 1)) + 1) (-nI 1) (k := 13) (j := o + k) (nI (nV n t (nb n t (p + 1)))) (by omega)
    have h5 := mp_4 (am_up J 13 (o + k) (nI (nV n t (nb n t (p + 1))))) (nE n t (nb n t (p + 1)) + 1) (-nI 1)
    have lk := pm_look hG f d hf (TM_up h (k := 13) (j := o + k) (v := nI (nV n t (nb n t (p + 1)))) (by omega)) L (-nI 1) (a := nE n t (nb n t (p + 1)) + 1) (by omega)
    have bl := bx_le hG (nb n t (nE n t (nb n t (p + 1)) + 1))
    have it := pm_itH f d (x := bx n t (nb n t (nE n t (nb n t (p + 1)) + 1))) (by omega) (mp (am_up J 13 (o + k) (nI (nV n t (nb n t (p + 1))))) (nb n t (nE n t (nb n t (p + 1)) + 1)) (-nI 1)) L
    (try simp only [Nat.zero_add] at n1)
    rw [show fX12_items_readHow_b41 f d (G + 1 + 1) = fX12_items_readHow_b41w f d (fX12_items_readHow_b41 f d (G + 1)) from rfl]
    generalize fX12_items_readHow_b41 f d (G + 1) = KK
    simp (disch := omega) only [fX12_items_readHow_b41w, fX12_items_readHow_b126, zz_lt, li_0, li_1, li_2, li_3, li_4, li_5, li_6, li_7, li_8, li_9, li_10, li_11, li_12, li_15, li_16, li_20, li_21, li_24, li_25, li_26, li_32, li_33, li_38, li_40, li_41, li_42, li_43, li_45, li_47, li_48, li_57, li_58, li_59, li_60, li_61, li_62, li_63, li_74, li_75, li_84, li_91, li_93, li_98, li_100, li_103, li_105, li_107, li_109, li_110, li_111, li_112, li_115, li_118, li_119, li_120, li_121, li_124, li_140, li_180, li_206, li_240, li_255, li_420, li_520, li_999, li_1000, li_1771, li_8240, li_9999, li_88200, li_1000000, li_2097151, li_31, nI_add, pk_mul, zz_sub, zz_an, nI_clamp, zz_leT, zz_leF, zz_ltT, zz_ltF, zz_eqF, zz_eqT, zz_m1, zz_m2, zz_m3, zz_m4, zz_m5, zz_m6, zz_ck, zz_bl, zz_b3, zz_b2, zz_shl, zz_bt0, zz_bt1, pk_div, Nat.zero_add, Nat.add_zero, if_true, if_false, reduceIte, Nat.mul_zero, zz_or0, zz_inT, zz_inF, h4, h3, hh, mp_up3, lw, hi, n1, mu, h5, lk, it, Bool.toNat_false]
def sJH (o k j : Nat) : Bool := k == 13 && decide (o ≤ j ∧ j < o + 2)
theorem sJH_t {o j : Nat} (h : o ≤ j ∧ j < o + 2) : sJH o 13 j = true := by simp [sJH, h]
/-- how both read the items of a clause -/
theorem it_bothH {n : Nat} {t : Nat → Nat} (hG : GT n t) (f d : Nat) (hf : 300 < f) (LC LM : am_L) {o : Nat} (ho : o + 2 ≤ 2) : ∀ (F G p c : Nat) (I J : am_I) (y : Int32) (val : Nat → Nat), n - p < F → n - p + 1 < G → p ≤ n → (p < n → t p ≠ 32) → c ≤ p → TC I n t → TM J n t → (∀ k, k < 2 → bt (I 25 3) (8 + k) = bt y k) → (∀ k, k < 2 → I 26 (8 + k) = nI (val k) ∧ J 13 (o + k) = nI (val k) ∧ lwT (8 + k) ≤ val k ∧ val k ≤ hgT (8 + k)) → ∃ (r : Nat) (I' J' : am_I) (a' : Nat) (w' : Int32) (p' : Nat) (val' : Nat → Nat), fX10_readItems_b21 f d F (nI 8) (nI (8 + 2)) (nI c) (cq I p) LC = some (nI r, cq I' p', LC) ∧ fX12_items_readHow_b41 f d G (nI 119) (nI o) y (zn (itR 8 2 (bx n t p))) (mp J p (-nI 1)) LM = some (mp J' a' w', LM) ∧ am_ag sIt I I' ∧ am_ag (sJH o) J J' ∧ ((r = 1 ∧ w' = -nI 1 ∧ a' = p' ∧ p' ≤ n ∧ (p' < n → t p' = 59) ∧ p ≤ p' ∧ (∀ k, k < 2 → I' 26 (8 + k) = nI (val' k) ∧ J' 13 (o + k) = nI (val' k) ∧ lwT (8 + k) ≤ val' k ∧ val' k ≤ hgT (8 + k))) ∨ (r = 0 ∧ a' ≤ 300 ∧ p' ≤ 300 ∧ (w' = nI p' ∨ (w' = -nI 1 ∧ a' = p' ∧ p' < n ∧ t p' ≠ 59 ∧ t p' ≠ 32))))
  | 0, _, _, _, _, _, _, _, fu, _, _, _, _, _, _, _, _ => by omega
  | _, 0, _, _, _, _, _, _, _, fu, _, _, _, _, _, _, _ => by omega
  | _, 1, _, _, _, _, _, _, _, fu, _, _, _, _, _, _, _ => by omega
  | F + 1, G + 2, p, c, I, J, y, val, fu, fg, hp, hb, hc, hI, hJ, hs, hv => by
    have g := hG.1
    have stp := ml_stopH f d J LM (nI 119) (nI o) y p (-nI 1) (G + 1)
    by_cases ce : p < n → t p = 59
    · have c1 := cl_end hG f d hI LC (nI 8) (nI (8 + 2)) (c := c) (p := p) (by omega) hp ce F
      refine ⟨1, I, J, p, -nI 1, p, val, c1, ?_, ag_rf, ag_rf, Or.inl ⟨rfl, rfl, rfl, hp, ce, Nat.le_refl _, hv⟩⟩
      have z : itR 8 2 (bx n t p) = 0 := by
        by_cases c2 : p < n
        · rw [bx_lt c2, ce c2]; rfl
        · rw [bx_ge (by omega)]; rfl
      rw [z, en_0]
      exact stp
    · have hpn : p < n := by
        by_cases z : p < n
        · exact z
        · exact absurd (fun q => absurd q z) ce
      have h59 : t p ≠ 59 := fun z => ce (fun _ => z)
      have h32 := hb hpn
      have g2 := hG.2 p hpn
      have il := io10_le (t p) (by omega)
      rw [bx_lt hpn]
      by_cases ci : 8 + 1 ≤ io10 (t p) ∧ io10 (t p) ≤ 8 + 2
      · obtain ⟨k, hk⟩ : ∃ k, io10 (t p) = 8 + k + 1 := ⟨io10 (t p) - (8 + 1), by omega⟩
        have kc : k < 2 := by omega
        have zi : itR 8 2 (t p + 1) = k + 1 := by
          unfold itR
          rw [if_neg (by omega), Nat.add_sub_cancel, if_pos ci]
          omega
        rw [zi, en_s]
        have sk := hs k kc
        cases cs : bt y k
        · rw [cs] at sk
          have c1 := cl_num hG f d hf hI LC (β := 8) (cnt := 2) (c := c) (p := p) (k := k) (by omega) (by omega) hpn kc hk sk F
          obtain ⟨v', a', m1, m2⟩ := ml_numH hG f d hf hJ LM y (o := o) (p := p) (k := k) ho hpn kc cs G
          have np := nb_le (n := n) (t := t) (i := p + 1) (by omega)
          cases cn : nOk n t (lwT (8 + k)) (hgT (8 + k)) (nb n t (p + 1))
          · rw [cn, if_neg (by decide)] at c1 m1
            exact ⟨0, _, _, a', _, nF n t (nb n t (p + 1)), val, c1, m1, ag_up ag_rf rfl, ag_up ag_rf (sJH_t (by omega)), Or.inr ⟨rfl, m2, nF_le hG np, Or.inl rfl⟩⟩
          · rw [cn, if_pos rfl] at c1 m1
            have dp : dg n t (nb n t (p + 1)) = true := by
              unfold nOk at cn
              cases z : dg n t (nb n t (p + 1))
              · rw [z, Bool.false_and] at cn; cases cn
              · rfl
            have vb : lwT (8 + k) ≤ nV n t (nb n t (p + 1)) ∧ nV n t (nb n t (p + 1)) ≤ hgT (8 + k) := by
              exact nOk_v cn
            have ne := nE_le dp
            have ge := nb_ge n t (p + 1)
            have ge2 := nb_ge n t (nE n t (nb n t (p + 1)) + 1)
            have le2 := nb_le (n := n) (t := t) (i := nE n t (nb n t (p + 1)) + 1) (by omega)
            obtain ⟨r, I', J', a2, w', p', val', z1, z2, z3, z4, z5⟩ := it_bothH hG f d hf LC LM ho F (G + 1) (nb n t (nE n t (nb n t (p + 1)) + 1)) (c + 1) (am_up (am_up I 25 3 (I 25 3 ||| nI (2 ^ (8 + k)))) 26 (8 + k) (nI (nV n t (nb n t (p + 1))))) (am_up J 13 (o + k) (nI (nV n t (nb n t (p + 1))))) (y ||| nI (2 ^ k)) (un val k (nV n t (nb n t (p + 1)))) (by omega) (by omega) le2 (fun z => nb_no (by omega) z) (by omega) (TC_up (TC_up hI (by omega)) (by omega)) (TM_up hJ (by omega)) (fun i hi => by
              rw [am_up_ne (by omega), up_s rfl, or_bit (by omega) (by omega), or_bit (by omega) (by omega), hs i hi]
              congr 1
              by_cases q : i = k
              · subst q; simp
              · rw [decide_eq_false (by omega), decide_eq_false q]) (fun i hi => by
              have := hv i hi
              unfold un
              by_cases q : i = k
              · subst q
                rw [if_pos rfl, up_s rfl, up_s rfl]
                exact ⟨rfl, rfl, vb⟩
              · rw [if_neg q, up_n (by omega), up_n (by omega), am_up_ne (by omega)]
                exact this)
            refine ⟨r, I', J', a2, w', p', val', by rw [c1]; exact z1, by rw [m1]; exact z2, ag_tr (ag_up (ag_up ag_rf rfl) sIt_26) z3, ag_tr (ag_up ag_rf (sJH_t (by omega))) z4, ?_⟩
            rcases z5 with ⟨q1, q2, q3, q4, q5, q6, q7⟩ | q
            · exact Or.inl ⟨q1, q2, q3, q4, q5, by omega, q7⟩
            · exact Or.inr q
        · rw [cs] at sk
          have c1 := cl_seen hG f d hf hI LC (β := 8) (cnt := 2) (c := c) (p := p) (k := k) (by omega) (by omega) hpn kc hk sk F
          have m1 := ml_seenH f d J LM (nI 119) (nI o) y p (k := k) (by omega) cs (G + 1)
          exact ⟨0, I, J, p, -nI 1, p, val, c1, m1, ag_rf, ag_rf, Or.inr ⟨rfl, by omega, by omega, Or.inr ⟨rfl, rfl, hpn, h59, h32⟩⟩⟩
      · have c1 := cl_out hG f d hf hI LC (β := 8) (cnt := 2) (c := c) (p := p) (by omega) (by omega) hpn h59 ci F
        have zi : itR 8 2 (t p + 1) = 0 := by
          unfold itR
          rw [if_neg (by omega), Nat.add_sub_cancel, if_neg ci]
        rw [zi, en_0]
        exact ⟨0, I, J, p, -nI 1, p, val, c1, stp, ag_rf, ag_rf, Or.inr ⟨rfl, by omega, by omega, Or.inr ⟨rfl, rfl, hpn, h59, h32⟩⟩⟩
