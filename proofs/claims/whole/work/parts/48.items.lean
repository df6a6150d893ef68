/-! PURE: numbers and items of a war's text, on both sides. -/
def cq (I : am_I) (p : Nat) : am_I := am_up I 25 4 (nI p)
theorem cq_4 (I : am_I) (p : Nat) : cq I p 25 4 = nI p := up_s rfl
theorem cq_up (I : am_I) (p r : Nat) : am_up (cq I p) 25 4 (nI r) = cq I r := up_up _ _ _ _ _
theorem cq_k (I : am_I) (p : Nat) {k : Nat} (h : k ≠ 25) : cq I p k = I k := am_up_ne h
theorem cq_j (I : am_I) (p : Nat) {j : Nat} (h : j ≠ 4) : cq I p 25 j = I 25 j := up_n h
theorem cq_upk (I : am_I) (p : Nat) {k j : Nat} (v : Int32) (h : k ≠ 25 ∨ j ≠ 4) : am_up (cq I p) k j v = cq (am_up I k j v) p := up_cm _ _ _ (by omega)
theorem cq_self {I : am_I} {p : Nat} (h : I 25 4 = nI p) : cq I p = I := up_id h
theorem TC_cq {I : am_I} {n : Nat} {t : Nat → Nat} (h : TC I n t) (p : Nat) : TC (cq I p) n t := by
  unfold TC at *
  rw [cq_k _ _ (by omega), cq_k _ _ (by omega)]
  exact h
theorem TC_up {I : am_I} {n : Nat} {t : Nat → Nat} (h : TC I n t) {k j : Nat} {v : Int32} (hk : 3 ≤ k) : TC (am_up I k j v) n t := by
  unfold TC at *
  rw [am_up_ne (by omega), am_up_ne (by omega)]
  exact h
theorem TM_up {I : am_I} {n : Nat} {t : Nat → Nat} (h : TM I n t) {k j : Nat} {v : Int32} (hk : 2 ≤ k ∨ (k = 0 ∧ j ≠ 2)) : TM (am_up I k j v) n t := by
  unfold TM at *
  rw [am_up_ne (show 1 ≠ k by omega)]
  by_cases c : k = 0
  · subst c; rw [up_n (by omega)]; exact h
  · rw [am_up_ne (show 0 ≠ k by omega)]; exact h
theorem pc_go {n : Nat} {t : Nat → Nat} (hG : GT n t) (f d : Nat) (hf : 300 < f) {I : am_I} (h : TC I n t) (L : am_L) {p : Nat} (hp : p < 900) : fX10_goOn f d (cq I p) L = some (cq I (nb n t (p + 1)), L) := by
  have b := pc_bb hG f d hf (TC_cq h p) L (i := p + 1) (by omega)
  have h4 := cq_4 I p
  simp (disch := omega) only [fX10_goOn, zz_lt, li_0, li_1, li_2, li_3, li_4, li_5, li_6, li_7, li_8, li_9, li_10, li_11, li_12, li_15, li_16, li_20, li_21, li_24, li_25, li_26, li_32, li_33, li_38, li_40, li_41, li_42, li_43, li_45, li_47, li_48, li_57, li_58, li_59, li_60, li_61, li_62, li_63, li_74, li_75, li_84, li_91, li_93, li_98, li_100, li_103, li_105, li_107, li_109, li_110, li_111, li_112, li_115, li_118, li_119, li_120, li_121, li_124, li_140, li_180, li_206, li_240, li_255, li_420, li_520, li_999, li_1000, li_1771, li_8240, li_9999, li_88200, li_1000000, li_2097151, li_31, nI_add, pk_mul, zz_sub, zz_an, nI_clamp, zz_leT, zz_leF, zz_ltT, zz_ltF, zz_eqF, zz_eqT, zz_m1, zz_m2, zz_m3, zz_m4, zz_m5, zz_m6, zz_ck, zz_bl, zz_b3, zz_b2, zz_shl, zz_bt0, zz_bt1, pk_div, Nat.zero_add, Nat.add_zero, if_true, if_false, reduceIte, Nat.mul_zero, zz_or0, zz_inT, zz_inF, h4, b, cq_up]
def nE (n : Nat) (t : Nat → Nat) (p : Nat) : Nat := if dg n t (p + 1) = true then p + 1 else p
def nV (n : Nat) (t : Nat → Nat) (p : Nat) : Nat := if dg n t (p + 1) = true then (t p - 48) * 10 + (t (p + 1) - 48) else t p - 48
def nOk (n : Nat) (t : Nat → Nat) (lo hi p : Nat) : Bool := dg n t p && (!dg n t (nE n t p + 1) && decide (lo ≤ nV n t p ∧ nV n t p ≤ hi))
def nF (n : Nat) (t : Nat → Nat) (p : Nat) : Nat := if dg n t p = true then (if dg n t (nE n t p + 1) = true then nE n t p + 1 else nE n t p) else p
theorem dg_in {n i : Nat} {t : Nat → Nat} (h : dg n t i = true) : i < n ∧ 48 ≤ t i ∧ t i ≤ 57 ∧ bx n t i = t i + 1 := by
  unfold dg at h
  have h' := of_decide_eq_true h
  have hi := bx_in (n := n) (t := t) (i := i) (by omega)
  rw [bx_lt hi] at h'
  exact ⟨hi, by omega, by omega, bx_lt hi⟩
theorem nE_le {n p : Nat} {t : Nat → Nat} (h : dg n t p = true) : p ≤ nE n t p ∧ nE n t p < n := by
  have := (dg_in h).1
  unfold nE
  split
  next c => have := (dg_in c).1; omega
  · omega
theorem nV_le {n p : Nat} {t : Nat → Nat} (h : dg n t p = true) : nV n t p ≤ 99 := by
  have := dg_in h
  unfold nV
  split
  next c => have := dg_in c; omega
  · omega
def lwT (k : Nat) : Nat := match k with | 2 => 1 | 6 => 1 | 7 => 1 | _ => 0
def hgT (k : Nat) : Nat := match k with | 0 => 1 | 1 => 20 | 2 => 5 | 3 => 1 | 6 => 20 | 9 => 1 | _ => 9
def wiT (k : Nat) : Nat := match k with | 1 => 6 | 2 => 1 | 4 => 3 | 6 => 3 | 7 => 2 | 8 => 6 | _ => 0
theorem cL_t : ∀ k, k < 10 → am_cL k = nI (lwT k) := by decide +kernel
theorem cM_t : ∀ k, k < 10 → am_cM k = nI (hgT k) := by decide +kernel
theorem cW_t : ∀ k, k < 10 → am_cW k = nI (wiT k) := by decide +kernel
theorem wi_in : ∀ k, k < 10 → lwT k ≤ wiT k ∧ wiT k ≤ hgT k := by decide +kernel
theorem hg_le : ∀ k, k < 10 → hgT k ≤ 20 := by decide +kernel
theorem pc_num2 {n : Nat} {t : Nat → Nat} (hG : GT n t) (f d : Nat) (hf : 300 < f) {I : am_I} (h : TC I n t) (L : am_L) {it e v : Nat} (hit : it < 10) (he : e < n) (hv : v ≤ 99) : fX10_readNumber_b87 f d (nI it) (nI v) (cq I e) L = (if dg n t (e + 1) = true then some (nI 0, cq I (e + 1), L) else if lwT it ≤ v ∧ v ≤ hgT it then some (nI 1, cq (am_up I 26 it (nI v)) (nb n t (e + 1)), L) else some (nI 0, cq I e, L)) := by
  have g := hG.1
  have h4 := cq_4 I e
  have d1 := pc_dg hG f d (TC_cq h e) L (i := e + 1) (by omega)
  have l1 := cL_t it hit
  have m1 := cM_t it hit
  have h20 := hg_le it hit
  have wi := wi_in it hit
  have go := pc_go hG f d hf (TC_up h (k := 26) (j := it) (v := nI v) (by omega)) L (p := e) (by omega)
  have cu := cq_upk I e (k := 26) (j := it) (nI v) (by omega)
  cases c1 : dg n t (e + 1)
  · rw [c1] at d1
    rw [if_neg (by decide)]
    by_cases c2 : v < lwT it
    · rw [if_neg (by omega)]
      simp (disch := omega) only [fX10_readNumber_b87, zz_lt, li_0, li_1, li_2, li_3, li_4, li_5, li_6, li_7, li_8, li_9, li_10, li_11, li_12, li_15, li_16, li_20, li_21, li_24, li_25, li_26, li_32, li_33, li_38, li_40, li_41, li_42, li_43, li_45, li_47, li_48, li_57, li_58, li_59, li_60, li_61, li_62, li_63, li_74, li_75, li_84, li_91, li_93, li_98, li_100, li_103, li_105, li_107, li_109, li_110, li_111, li_112, li_115, li_118, li_119, li_120, li_121, li_124, li_140, li_180, li_206, li_240, li_255, li_420, li_520, li_999, li_1000, li_1771, li_8240, li_9999, li_88200, li_1000000, li_2097151, li_31, nI_add, pk_mul, zz_sub, zz_an, nI_clamp, zz_leT, zz_leF, zz_ltT, zz_ltF, zz_eqF, zz_eqT, zz_m1, zz_m2, zz_m3, zz_m4, zz_m5, zz_m6, zz_ck, zz_bl, zz_b3, zz_b2, zz_shl, zz_bt0, zz_bt1, pk_div, Nat.zero_add, Nat.add_zero, if_true, if_false, reduceIte, Nat.mul_zero, zz_or0, zz_inT, zz_inF, h4, d1, l1, Bool.toNat_false]
    · by_cases c3 : v ≤ hgT it
      · rw [if_pos (by omega)]
        simp (disch := omega) only [fX10_readNumber_b87, zz_lt, li_0, li_1, li_2, li_3, li_4, li_5, li_6, li_7, li_8, li_9, li_10, li_11, li_12, li_15, li_16, li_20, li_21, li_24, li_25, li_26, li_32, li_33, li_38, li_40, li_41, li_42, li_43, li_45, li_47, li_48, li_57, li_58, li_59, li_60, li_61, li_62, li_63, li_74, li_75, li_84, li_91, li_93, li_98, li_100, li_103, li_105, li_107, li_109, li_110, li_111, li_112, li_115, li_118, li_119, li_120, li_121, li_124, li_140, li_180, li_206, li_240, li_255, li_420, li_520, li_999, li_1000, li_1771, li_8240, li_9999, li_88200, li_1000000, li_2097151, li_31, nI_add, pk_mul, zz_sub, zz_an, nI_clamp, zz_leT, zz_leF, zz_ltT, zz_ltF, zz_eqF, zz_eqT, zz_m1, zz_m2, zz_m3, zz_m4, zz_m5, zz_m6, zz_ck, zz_bl, zz_b3, zz_b2, zz_shl, zz_bt0, zz_bt1, pk_div, Nat.zero_add, Nat.add_zero, if_true, if_false, reduceIte, Nat.mul_zero, zz_or0, zz_inT, zz_inF, h4, d1, l1, m1, cu, go, Bool.toNat_false]
      · rw [if_neg (by omega)]
        simp (disch := omega) only [fX10_readNumber_b87, zz_lt, li_0, li_1, li_2, li_3, li_4, li_5, li_6, li_7, li_8, li_9, li_10, li_11, li_12, li_15, li_16, li_20, li_21, li_24, li_25, li_26, li_32, li_33, li_38, li_40, li_41, li_42, li_43, li_45, li_47, li_48, li_57, li_58, li_59, li_60, li_61, li_62, li_63, li_74, li_75, li_84, li_91, li_93, li_98, li_100, li_103, li_105, li_107, li_109, li_110, li_111, li_112, li_115, li_118, li_119, li_120, li_121, li_124, li_140, li_180, li_206, li_240, li_255, li_420, li_520, li_999, li_1000, li_1771, li_8240, li_9999, li_88200, li_1000000, li_2097151, li_31, nI_add, pk_mul, zz_sub, zz_an, nI_clamp, zz_leT, zz_leF, zz_ltT, zz_ltF, zz_eqF, zz_eqT, zz_m1, zz_m2, zz_m3, zz_m4, zz_m5, zz_m6, zz_ck, zz_bl, zz_b3, zz_b2, zz_shl, zz_bt0, zz_bt1, pk_div, Nat.zero_add, Nat.add_zero, if_true, if_false, reduceIte, Nat.mul_zero, zz_or0, zz_inT, zz_inF, h4, d1, l1, m1, Bool.toNat_false]
  · rw [c1] at d1
    rw [if_pos rfl]
    simp (disch := omega) only [fX10_readNumber_b87, zz_lt, li_0, li_1, li_2, li_3, li_4, li_5, li_6, li_7, li_8, li_9, li_10, li_11, li_12, li_15, li_16, li_20, li_21, li_24, li_25, li_26, li_32, li_33, li_38, li_40, li_41, li_42, li_43, li_45, li_47, li_48, li_57, li_58, li_59, li_60, li_61, li_62, li_63, li_74, li_75, li_84, li_91, li_93, li_98, li_100, li_103, li_105, li_107, li_109, li_110, li_111, li_112, li_115, li_118, li_119, li_120, li_121, li_124, li_140, li_180, li_206, li_240, li_255, li_420, li_520, li_999, li_1000, li_1771, li_8240, li_9999, li_88200, li_1000000, li_2097151, li_31, nI_add, pk_mul, zz_sub, zz_an, nI_clamp, zz_leT, zz_leF, zz_ltT, zz_ltF, zz_eqF, zz_eqT, zz_m1, zz_m2, zz_m3, zz_m4, zz_m5, zz_m6, zz_ck, zz_bl, zz_b3, zz_b2, zz_shl, zz_bt0, zz_bt1, pk_div, Nat.zero_add, Nat.add_zero, if_true, if_false, reduceIte, Nat.mul_zero, zz_or0, zz_inT, zz_inF, h4, d1, cq_up, Bool.toNat_true]
theorem pc_num {n : Nat} {t : Nat → Nat} (hG : GT n t) (f d : Nat) (hf : 300 < f) {I : am_I} (h : TC I n t) (L : am_L) {it p : Nat} (hit : it < 10) (hp : p ≤ n) : fX10_readNumber f d (nI it) (cq I p) L = (if nOk n t (lwT it) (hgT it) p = true then some (nI 1, cq (am_up I 26 it (nI (nV n t p))) (nb n t (nE n t p + 1)), L) else some (nI 0, cq I (nF n t p), L)) := by
  have g := hG.1
  have h4 := cq_4 I p
  have d1 := pc_dg hG f d (TC_cq h p) L (i := p) (by omega)
  have d2 := pc_dg hG f d (TC_cq h p) L (i := p + 1) (by omega)
  have a1 := pc_at hG f d (TC_cq h p) L (i := p) (by omega)
  unfold nOk nF
  cases c1 : dg n t p
  · rw [c1] at d1
    rw [Bool.false_and, if_neg (by decide), if_neg (by decide)]
    simp (disch := omega) only [fX10_readNumber, zz_lt, li_0, li_1, li_2, li_3, li_4, li_5, li_6, li_7, li_8, li_9, li_10, li_11, li_12, li_15, li_16, li_20, li_21, li_24, li_25, li_26, li_32, li_33, li_38, li_40, li_41, li_42, li_43, li_45, li_47, li_48, li_57, li_58, li_59, li_60, li_61, li_62, li_63, li_74, li_75, li_84, li_91, li_93, li_98, li_100, li_103, li_105, li_107, li_109, li_110, li_111, li_112, li_115, li_118, li_119, li_120, li_121, li_124, li_140, li_180, li_206, li_240, li_255, li_420, li_520, li_999, li_1000, li_1771, li_8240, li_9999, li_88200, li_1000000, li_2097151, li_31, nI_add, pk_mul, zz_sub, zz_an, nI_clamp, zz_leT, zz_leF, zz_ltT, zz_ltF, zz_eqF, zz_eqT, zz_m1, zz_m2, zz_m3, zz_m4, zz_m5, zz_m6, zz_ck, zz_bl, zz_b3, zz_b2, zz_shl, zz_bt0, zz_bt1, pk_div, Nat.zero_add, Nat.add_zero, if_true, if_false, reduceIte, Nat.mul_zero, zz_or0, zz_inT, zz_inF, h4, d1, Bool.toNat_false]
  · rw [c1] at d1
    obtain ⟨i1, i2, i3, i4⟩ := dg_in c1
    rw [i4, en_s] at a1
    rw [Bool.true_and, if_pos rfl]
    cases c2 : dg n t (p + 1)
    · rw [c2] at d2
      have eE : nE n t p = p := by unfold nE; rw [c2, if_neg (by decide)]
      have eV : nV n t p = t p - 48 := by unfold nV; rw [c2, if_neg (by decide)]
      have n2 := pc_num2 hG f d hf h L (it := it) (e := p) (v := t p - 48) hit i1 (by omega)
      rw [c2, if_neg (by decide)] at n2
      rw [eE, eV, c2]
      simp only [Bool.not_false, Bool.true_and, decide_eq_true_eq, Bool.false_eq_true, if_false]
      rw [← n2]
      simp (disch := omega) only [fX10_readNumber, zz_lt, li_0, li_1, li_2, li_3, li_4, li_5, li_6, li_7, li_8, li_9, li_10, li_11, li_12, li_15, li_16, li_20, li_21, li_24, li_25, li_26, li_32, li_33, li_38, li_40, li_41, li_42, li_43, li_45, li_47, li_48, li_57, li_58, li_59, li_60, li_61, li_62, li_63, li_74, li_75, li_84, li_91, li_93, li_98, li_100, li_103, li_105, li_107, li_109, li_110, li_111, li_112, li_115, li_118, li_119, li_120, li_121, li_124, li_140, li_180, li_206, li_240, li_255, li_420, li_520, li_999, li_1000, li_1771, li_8240, li_9999, li_88200, li_1000000, li_2097151, li_31, nI_add, pk_mul, zz_sub, zz_an, nI_clamp, zz_leT, zz_leF, zz_ltT, zz_ltF, zz_eqF, zz_eqT, zz_m1, zz_m2, zz_m3, zz_m4, zz_m5, zz_m6, zz_ck, zz_bl, zz_b3, zz_b2, zz_shl, zz_bt0, zz_bt1, pk_div, Nat.zero_add, Nat.add_zero, if_true, if_false, reduceIte, Nat.mul_zero, zz_or0, zz_inT, zz_inF, h4, d1, d2, a1, Bool.toNat_true, Bool.toNat_false]
    · rw [c2] at d2
      obtain ⟨j1, j2, j3, j4⟩ := dg_in c2
      have eE : nE n t p = p + 1 := by unfold nE; rw [c2, if_pos rfl]
      have eV : nV n t p = (t p - 48) * 10 + (t (p + 1) - 48) := by unfold nV; rw [c2, if_pos rfl]
      have a2 := pc_at hG f d (TC_cq h (p + 1)) L (i := p + 1) (by omega)
      rw [j4, en_s] at a2
      have h5 := cq_4 I (p + 1)
      have n2 := pc_num2 hG f d hf h L (it := it) (e := p + 1) (v := (t p - 48) * 10 + (t (p + 1) - 48)) hit j1 (by omega)
      have ev : (t p - 48) * 10 + t (p + 1) - 48 = (t p - 48) * 10 + (t (p + 1) - 48) := by omega
      have st : fX10_readNumber f d (nI it) (cq I p) L = fX10_readNumber_b87 f d (nI it) (nI ((t p - 48) * 10 + (t (p + 1) - 48))) (cq I (p + 1)) L := by
        simp (disch := omega) only [fX10_readNumber, zz_lt, li_0, li_1, li_2, li_3, li_4, li_5, li_6, li_7, li_8, li_9, li_10, li_11, li_12, li_15, li_16, li_20, li_21, li_24, li_25, li_26, li_32, li_33, li_38, li_40, li_41, li_42, li_43, li_45, li_47, li_48, li_57, li_58, li_59, li_60, li_61, li_62, li_63, li_74, li_75, li_84, li_91, li_93, li_98, li_100, li_103, li_105, li_107, li_109, li_110, li_111, li_112, li_115, li_118, li_119, li_120, li_121, li_124, li_140, li_180, li_206, li_240, li_255, li_420, li_520, li_999, li_1000, li_1771, li_8240, li_9999, li_88200, li_1000000, li_2097151, li_31, nI_add, pk_mul, zz_sub, zz_an, nI_clamp, zz_leT, zz_leF, zz_ltT, zz_ltF, zz_eqF, zz_eqT, zz_m1, zz_m2, zz_m3, zz_m4, zz_m5, zz_m6, zz_ck, zz_bl, zz_b3, zz_b2, zz_shl, zz_bt0, zz_bt1, pk_div, Nat.zero_add, Nat.add_zero, if_true, if_false, reduceIte, Nat.mul_zero, zz_or0, zz_inT, zz_inF, h4, d1, d2, a1, a2, h5, cq_up, ev, Bool.toNat_true]
      rw [st, n2, eE, eV]
      cases c3 : dg n t (p + 1 + 1)
      · simp only [Bool.not_false, Bool.true_and, decide_eq_true_eq, Bool.false_eq_true, if_false]
      · simp only [Bool.not_true, Bool.false_and, Bool.false_eq_true, if_false, if_true]
theorem pm_num2 {n : Nat} {t : Nat → Nat} (hG : GT n t) (f d : Nat) {I : am_I} (h : TM I n t) (L : am_L) {e v lo hi : Nat} (he : e < n) (hv : v ≤ 99) (hl : lo ≤ 20) (hh : hi ≤ 20) : ∃ a', fX12_number_b67 f d (nI lo) (nI hi) (nI v) (mp I (e + 1) (-nI 1)) L = (if dg n t (e + 1) = true then some (nI v, mp I a' (nI (e + 1)), L) else if lo ≤ v ∧ v ≤ hi then some (nI v, mp I (e + 1) (-nI 1), L) else some (nI v, mp I a' (nI e), L)) ∧ a' ≤ 300 := by
  have g := hG.1
  have hr := pm_here hG f d h L (a := e + 1) (by omega) (-nI 1)
  have d1 := pm_dg hG f d (mp I (e + 1) (-nI 1)) L (e + 1)
  have h3 := mp_3 I (e + 1) (-nI 1)
  have b0 := pm_bad0 f d I L (e + 1)
  have b1 := pm_bad0 f d I L e
  cases c1 : dg n t (e + 1)
  · rw [c1] at d1
    refine ⟨e, ?_, by omega⟩
    rw [if_neg (by decide)]
    by_cases c2 : lo ≤ v ∧ v ≤ hi
    · rw [if_pos c2]
      simp (disch := omega) only [fX12_number_b67, zz_lt, li_0, li_1, li_2, li_3, li_4, li_5, li_6, li_7, li_8, li_9, li_10, li_11, li_12, li_15, li_16, li_20, li_21, li_24, li_25, li_26, li_32, li_33, li_38, li_40, li_41, li_42, li_43, li_45, li_47, li_48, li_57, li_58, li_59, li_60, li_61, li_62, li_63, li_74, li_75, li_84, li_91, li_93, li_98, li_100, li_103, li_105, li_107, li_109, li_110, li_111, li_112, li_115, li_118, li_119, li_120, li_121, li_124, li_140, li_180, li_206, li_240, li_255, li_420, li_520, li_999, li_1000, li_1771, li_8240, li_9999, li_88200, li_1000000, li_2097151, li_31, nI_add, pk_mul, zz_sub, zz_an, nI_clamp, zz_leT, zz_leF, zz_ltT, zz_ltF, zz_eqF, zz_eqT, zz_m1, zz_m2, zz_m3, zz_m4, zz_m5, zz_m6, zz_ck, zz_bl, zz_b3, zz_b2, zz_shl, zz_bt0, zz_bt1, pk_div, Nat.zero_add, Nat.add_zero, if_true, if_false, reduceIte, Nat.mul_zero, zz_or0, zz_inT, zz_inF, hr, d1, Bool.toNat_false]
    · rw [if_neg c2]
      simp (disch := omega) only [fX12_number_b67, zz_lt, li_0, li_1, li_2, li_3, li_4, li_5, li_6, li_7, li_8, li_9, li_10, li_11, li_12, li_15, li_16, li_20, li_21, li_24, li_25, li_26, li_32, li_33, li_38, li_40, li_41, li_42, li_43, li_45, li_47, li_48, li_57, li_58, li_59, li_60, li_61, li_62, li_63, li_74, li_75, li_84, li_91, li_93, li_98, li_100, li_103, li_105, li_107, li_109, li_110, li_111, li_112, li_115, li_118, li_119, li_120, li_121, li_124, li_140, li_180, li_206, li_240, li_255, li_420, li_520, li_999, li_1000, li_1771, li_8240, li_9999, li_88200, li_1000000, li_2097151, li_31, nI_add, pk_mul, zz_sub, zz_an, nI_clamp, zz_leT, zz_leF, zz_ltT, zz_ltF, zz_eqF, zz_eqT, zz_m1, zz_m2, zz_m3, zz_m4, zz_m5, zz_m6, zz_ck, zz_bl, zz_b3, zz_b2, zz_shl, zz_bt0, zz_bt1, pk_div, Nat.zero_add, Nat.add_zero, if_true, if_false, reduceIte, Nat.mul_zero, zz_or0, zz_inT, zz_inF, hr, d1, h3, mp_up3, Nat.add_sub_cancel, b1, Bool.toNat_false]
  · rw [c1] at d1
    refine ⟨e + 1, ?_, by omega⟩
    rw [if_pos rfl]
    simp (disch := omega) only [fX12_number_b67, zz_lt, li_0, li_1, li_2, li_3, li_4, li_5, li_6, li_7, li_8, li_9, li_10, li_11, li_12, li_15, li_16, li_20, li_21, li_24, li_25, li_26, li_32, li_33, li_38, li_40, li_41, li_42, li_43, li_45, li_47, li_48, li_57, li_58, li_59, li_60, li_61, li_62, li_63, li_74, li_75, li_84, li_91, li_93, li_98, li_100, li_103, li_105, li_107, li_109, li_110, li_111, li_112, li_115, li_118, li_119, li_120, li_121, li_124, li_140, li_180, li_206, li_240, li_255, li_420, li_520, li_999, li_1000, li_1771, li_8240, li_9999, li_88200, li_1000000, li_2097151, li_31, nI_add, pk_mul, zz_sub, zz_an, nI_clamp, zz_leT, zz_leF, zz_ltT, zz_ltF, zz_eqF, zz_eqT, zz_m1, zz_m2, zz_m3, zz_m4, zz_m5, zz_m6, zz_ck, zz_bl, zz_b3, zz_b2, zz_shl, zz_bt0, zz_bt1, pk_div, Nat.zero_add, Nat.add_zero, if_true, if_false, reduceIte, Nat.mul_zero, zz_or0, zz_inT, zz_inF, hr, d1, b0, Bool.toNat_true]
theorem pm_num {n : Nat} {t : Nat → Nat} (hG : GT n t) (f d : Nat) (hf : 300 < f) {I : am_I} (h : TM I n t) (L : am_L) {a p lo hi : Nat} (ha : a ≤ n) (hp : nb n t a = p) (hl : lo ≤ 20) (hh : hi ≤ 20) : ∃ v' a', fX12_number f d (nI lo) (nI hi) (mp I a (-nI 1)) L = (if nOk n t lo hi p = true then some (nI (nV n t p), mp I (nE n t p + 1) (-nI 1), L) else some (v', mp I a' (nI (nF n t p)), L)) ∧ a' ≤ 300 := by
  have g := hG.1
  have hpn : p ≤ n := by rw [← hp]; exact nb_le ha
  have lk := pm_look hG f d hf h L (-nI 1) (a := a) (by omega)
  rw [hp] at lk
  have d1 := pm_dg hG f d (mp I p (-nI 1)) L p
  have b0 := pm_bad0 f d I L p
  unfold nOk nF
  cases c1 : dg n t p
  · rw [c1] at d1
    refine ⟨nI lo, p, ?_, by omega⟩
    rw [Bool.false_and, if_neg (by decide), if_neg (by decide)]
    simp (disch := omega) only [fX12_number, zz_lt, li_0, li_1, li_2, li_3, li_4, li_5, li_6, li_7, li_8, li_9, li_10, li_11, li_12, li_15, li_16, li_20, li_21, li_24, li_25, li_26, li_32, li_33, li_38, li_40, li_41, li_42, li_43, li_45, li_47, li_48, li_57, li_58, li_59, li_60, li_61, li_62, li_63, li_74, li_75, li_84, li_91, li_93, li_98, li_100, li_103, li_105, li_107, li_109, li_110, li_111, li_112, li_115, li_118, li_119, li_120, li_121, li_124, li_140, li_180, li_206, li_240, li_255, li_420, li_520, li_999, li_1000, li_1771, li_8240, li_9999, li_88200, li_1000000, li_2097151, li_31, nI_add, pk_mul, zz_sub, zz_an, nI_clamp, zz_leT, zz_leF, zz_ltT, zz_ltF, zz_eqF, zz_eqT, zz_m1, zz_m2, zz_m3, zz_m4, zz_m5, zz_m6, zz_ck, zz_bl, zz_b3, zz_b2, zz_shl, zz_bt0, zz_bt1, pk_div, Nat.zero_add, Nat.add_zero, if_true, if_false, reduceIte, Nat.mul_zero, zz_or0, zz_inT, zz_inF, lk, d1, b0, Bool.toNat_false]
  · rw [c1] at d1
    obtain ⟨i1, i2, i3, i4⟩ := dg_in c1
    have hr := pm_here hG f d h L (a := p) (by omega) (-nI 1)
    have hr1 := pm_here hG f d h L (a := p + 1) (by omega) (-nI 1)
    have d2 := pm_dg hG f d (mp I (p + 1) (-nI 1)) L (p + 1)
    have h3 := mp_3 I p (-nI 1)
    have h31 := mp_3 I (p + 1) (-nI 1)
    rw [Bool.true_and, if_pos rfl]
    have hr' := hr
    rw [i4, en_s] at hr'
    rw [i4, en_s] at lk d1
    cases c2 : dg n t (p + 1)
    · rw [c2] at d2
      have eE : nE n t p = p := by unfold nE; rw [c2, if_neg (by decide)]
      have eV : nV n t p = t p - 48 := by unfold nV; rw [c2, if_neg (by decide)]
      obtain ⟨a', n2, n3⟩ := pm_num2 hG f d h L (e := p) (v := t p - 48) (lo := lo) (hi := hi) i1 (by omega) hl hh
      rw [c2, if_neg (by decide)] at n2
      refine ⟨nI (t p - 48), a', ?_, n3⟩
      rw [eE, eV, c2]
      simp only [Bool.not_false, Bool.true_and, decide_eq_true_eq, Bool.false_eq_true, if_false]
      rw [← n2]
      simp (disch := omega) only [fX12_number, zz_lt, li_0, li_1, li_2, li_3, li_4, li_5, li_6, li_7, li_8, li_9, li_10, li_11, li_12, li_15, li_16, li_20, li_21, li_24, li_25, li_26, li_32, li_33, li_38, li_40, li_41, li_42, li_43, li_45, li_47, li_48, li_57, li_58, li_59, li_60, li_61, li_62, li_63, li_74, li_75, li_84, li_91, li_93, li_98, li_100, li_103, li_105, li_107, li_109, li_110, li_111, li_112, li_115, li_118, li_119, li_120, li_121, li_124, li_140, li_180, li_206, li_240, li_255, li_420, li_520, li_999, li_1000, li_1771, li_8240, li_9999, li_88200, li_1000000, li_2097151, li_31, nI_add, pk_mul, zz_sub, zz_an, nI_clamp, zz_leT, zz_leF, zz_ltT, zz_ltF, zz_eqF, zz_eqT, zz_m1, zz_m2, zz_m3, zz_m4, zz_m5, zz_m6, zz_ck, zz_bl, zz_b3, zz_b2, zz_shl, zz_bt0, zz_bt1, pk_div, Nat.zero_add, Nat.add_zero, if_true, if_false, reduceIte, Nat.mul_zero, zz_or0, zz_inT, zz_inF, lk, d1, hr', h3, mp_up3, hr1, d2, Bool.toNat_true, Bool.toNat_false]
    · rw [c2] at d2
      obtain ⟨j1, j2, j3, j4⟩ := dg_in c2
      have eE : nE n t p = p + 1 := by unfold nE; rw [c2, if_pos rfl]
      have eV : nV n t p = (t p - 48) * 10 + (t (p + 1) - 48) := by unfold nV; rw [c2, if_pos rfl]
      obtain ⟨a', n2, n3⟩ := pm_num2 hG f d h L (e := p + 1) (v := (t p - 48) * 10 + (t (p + 1) - 48)) (lo := lo) (hi := hi) j1 (by omega) hl hh
      refine ⟨nI ((t p - 48) * 10 + (t (p + 1) - 48)), a', ?_, n3⟩
      have ev : 10 * (t p - 48) + t (p + 1) - 48 = (t p - 48) * 10 + (t (p + 1) - 48) := by omega
      rw [j4, en_s] at hr1 d2
      have st : fX12_number f d (nI lo) (nI hi) (mp I a (-nI 1)) L = fX12_number_b67 f d (nI lo) (nI hi) (nI ((t p - 48) * 10 + (t (p + 1) - 48))) (mp I (p + 1 + 1) (-nI 1)) L := by
        simp (disch := omega) only [fX12_number, zz_lt, li_0, li_1, li_2, li_3, li_4, li_5, li_6, li_7, li_8, li_9, li_10, li_11, li_12, li_15, li_16, li_20, li_21, li_24, li_25, li_26, li_32, li_33, li_38, li_40, li_41, li_42, li_43, li_45, li_47, li_48, li_57, li_58, li_59, li_60, li_61, li_62, li_63, li_74, li_75, li_84, li_91, li_93, li_98, li_100, li_103, li_105, li_107, li_109, li_110, li_111, li_112, li_115, li_118, li_119, li_120, li_121, li_124, li_140, li_180, li_206, li_240, li_255, li_420, li_520, li_999, li_1000, li_1771, li_8240, li_9999, li_88200, li_1000000, li_2097151, li_31, nI_add, pk_mul, zz_sub, zz_an, nI_clamp, zz_leT, zz_leF, zz_ltT, zz_ltF, zz_eqF, zz_eqT, zz_m1, zz_m2, zz_m3, zz_m4, zz_m5, zz_m6, zz_ck, zz_bl, zz_b3, zz_b2, zz_shl, zz_bt0, zz_bt1, pk_div, Nat.zero_add, Nat.add_zero, if_true, if_false, reduceIte, Nat.mul_zero, zz_or0, zz_inT, zz_inF, lk, d1, hr', h3, mp_up3, hr1, d2, h31, ev, Bool.toNat_true]
      rw [st, n2, eE, eV]
      cases c3 : dg n t (p + 1 + 1)
      · simp only [Bool.not_false, Bool.true_and, decide_eq_true_eq, Bool.false_eq_true, if_false]
      · simp only [Bool.not_true, Bool.false_and, Bool.false_eq_true, if_false, if_true]
