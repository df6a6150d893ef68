/-! PURE: a number in a law's text. -/
/-- the model went wrong at e, its code at least m and at most E -/
def MF (J : am_I) (s m E e : Nat) : Prop := J 0 4 = nI e ∧ e ≤ 240 ∧ J 0 14 = nI s ∧ ∃ m', m ≤ m' ∧ m' ≤ E ∧ J 4 s = nI m'
def OKx (n : Nat) (t : Nat → Nat) (b : Bool) (h k s p c m : Nat) (I J I' J' : am_I) : Prop := ∃ (ops : List Nat) (p' a' : Nat), EX b h ops ∧ PC n t I' p' (c + ops.length) ∧ PM n t J' a' (-nI 1) k s (m + ops.length) ∧ nb n t a' = p' ∧ a' ≤ n ∧ p + ops.length ≤ p' ∧ RQ (I' 28) cw c ops ∧ RQ (J' 2) mk (520 * s + m) ops ∧ RQ (J' 3) mv (520 * s + m) ops ∧ FC c I I' ∧ FM s m J J'
def ERx (s c m E : Nat) (I J I' J' : am_I) : Prop := ∃ e, I' 27 3 = nI e ∧ MF J' s m E e ∧ FC c I I' ∧ FM s m J J'
section
variable {n : Nat} {t : Nat → Nat} {I J : am_I} {p c a k s m : Nat}
theorem lm_here (hG : GT n t) (f d : Nat) (L : am_L) {w : Int32} (h : PM n t J a w k s m) (ha : a ≤ n) : fX12_here f d J L = some (zn (bx n t a), J, L) := by
  have e := mp_self h.2.1 h.2.2.1
  have l := pm_here hG f d h.1 L (a := a) (by have := hG.1; omega) w
  rw [e] at l
  exact l
theorem zn_dg {q : Nat} (h : dg n t q = true) : ∃ x, x ≤ 9 ∧ zn (bx n t q) = nI (48 + x) ∧ q < n := by
  unfold dg at h
  have h' := of_decide_eq_true h
  refine ⟨bx n t q - 49, by omega, ?_, bx_in (t := t) (i := q) (by omega)⟩
  unfold zn
  rw [if_neg (by omega), show bx n t q - 1 = 48 + (bx n t q - 49) by omega]
theorem num_L (hG : GT n t) (f d d' : Nat) (LC LM : am_L) : ∀ (r i v F F' p : Nat) (I J : am_I), i + r = 4 → r < F → r < F' → v < 10 ^ i → p ≤ n → PC n t I p c → PM n t J p (-nI 1) k s m → ∃ j v', v' < 10000 ∧ p + j ≤ n ∧ (dg n t p = true → 0 < r → 1 ≤ j) ∧ fX2_readNumber_b4 f d F (nI v) (nI i) I LC = fX2_readNumber_b59 f d (nI v') (am_up I 27 3 (nI (p + j))) LC ∧ fX12_plainNumber_b4 f d' F' (nI v) (nI i) J LM = fX12_plainNumber_b48 f d' (nI v') (am_up J 0 3 (nI (p + j))) LM
  | _, _, _, 0, _, _, _, _, _, h, _, _, _, _, _ => by omega
  | _, _, _, _, 0, _, _, _, _, _, h, _, _, _, _ => by omega
  | 0, i, v, F + 1, F' + 1, p, I, J, e, _, _, hv, hp, hI, hJ => by
    have e4 : i = 4 := by omega
    subst e4
    refine ⟨0, v, hv, by omega, fun _ z => by omega, ?_, ?_⟩
    · rw [Nat.add_zero p, up_id hI.2.1]
      simp (disch := omega) only [fX2_readNumber_b4, fX2_readNumber_b4w, zz_lt, li_0, li_1, li_2, li_3, li_4, li_5, li_6, li_7, li_8, li_9, li_10, li_11, li_12, li_15, li_16, li_20, li_21, li_24, li_25, li_26, li_32, li_33, li_38, li_40, li_41, li_42, li_43, li_45, li_47, li_48, li_57, li_58, li_59, li_60, li_61, li_62, li_63, li_74, li_75, li_84, li_91, li_93, li_98, li_100, li_103, li_105, li_107, li_109, li_110, li_111, li_112, li_115, li_118, li_119, li_120, li_121, li_124, li_140, li_180, li_206, li_240, li_255, li_420, li_520, li_999, li_1000, li_1771, li_8240, li_9999, li_88200, li_1000000, li_2097151, li_31, nI_add, pk_mul, zz_sub, zz_an, nI_clamp, zz_leT, zz_leF, zz_ltT, zz_ltF, zz_eqF, zz_eqT, zz_m1, zz_m2, zz_m3, zz_m4, zz_m5, zz_m6, zz_ck, zz_bl, zz_b3, zz_b2, zz_shl, zz_bt0, zz_bt1, pk_div, Nat.zero_add, Nat.add_zero, if_true, if_false, reduceIte, Nat.mul_zero, zz_or0, zz_inT, zz_inF]
    · rw [Nat.add_zero p, up_id hJ.2.1]
      simp (disch := omega) only [fX12_plainNumber_b4, fX12_plainNumber_b4w, zz_lt, li_0, li_1, li_2, li_3, li_4, li_5, li_6, li_7, li_8, li_9, li_10, li_11, li_12, li_15, li_16, li_20, li_21, li_24, li_25, li_26, li_32, li_33, li_38, li_40, li_41, li_42, li_43, li_45, li_47, li_48, li_57, li_58, li_59, li_60, li_61, li_62, li_63, li_74, li_75, li_84, li_91, li_93, li_98, li_100, li_103, li_105, li_107, li_109, li_110, li_111, li_112, li_115, li_118, li_119, li_120, li_121, li_124, li_140, li_180, li_206, li_240, li_255, li_420, li_520, li_999, li_1000, li_1771, li_8240, li_9999, li_88200, li_1000000, li_2097151, li_31, nI_add, pk_mul, zz_sub, zz_an, nI_clamp, zz_leT, zz_leF, zz_ltT, zz_ltF, zz_eqF, zz_eqT, zz_m1, zz_m2, zz_m3, zz_m4, zz_m5, zz_m6, zz_ck, zz_bl, zz_b3, zz_b2, zz_shl, zz_bt0, zz_bt1, pk_div, Nat.zero_add, Nat.add_zero, if_true, if_false, reduceIte, Nat.mul_zero, zz_or0, zz_inT, zz_inF]
  | r + 1, i, v, F + 1, F' + 1, p, I, J, e, f1, f2, hv, hp, hI, hJ => by
    have g := hG.1
    have v4 : 10 ^ i ≤ 10 ^ 3 := Nat.pow_le_pow_right (by omega) (by omega)
    have v4' : v < 1000 := by
      have : (10 : Nat) ^ 3 = 1000 := rfl
      omega
    have i3 := hI.2.1
    have j3 := hJ.2.1
    have d1 := pc_dg hG f d hI.1 LC (i := p) (by omega)
    have a1 := lc_at hG f d LC hI hp
    have b1 := lm_here hG f d' LM hJ hp
    have b2 := pm_dg hG f d' J LM p
    by_cases q : dg n t p = true
    · obtain ⟨x, x9, zx, pn⟩ := zn_dg q
      rw [q] at d1 b2
      rw [zx] at a1 b1 b2
      obtain ⟨j, v', y1, y2, y3, y4, y5⟩ := num_L hG f d d' LC LM r (i + 1) (10 * v + x) F F' (p + 1) (am_up I 27 3 (nI (p + 1))) (am_up J 0 3 (nI (p + 1))) (by omega) (by omega) (by omega) (by rw [Nat.pow_succ]; omega) (by omega) (PC_go hI (p + 1)) (PM_3 hJ (p + 1))
      refine ⟨j + 1, v', y1, by omega, fun _ _ => by omega, ?_, ?_⟩
      · rw [up_up, show p + 1 + j = p + (j + 1) by omega] at y4
        rw [← y4]
        have z : v * 10 + (48 + x) - 48 = 10 * v + x := by omega
        simp (disch := omega) only [fX2_readNumber_b4, fX2_readNumber_b4w, zz_lt, li_0, li_1, li_2, li_3, li_4, li_5, li_6, li_7, li_8, li_9, li_10, li_11, li_12, li_15, li_16, li_20, li_21, li_24, li_25, li_26, li_32, li_33, li_38, li_40, li_41, li_42, li_43, li_45, li_47, li_48, li_57, li_58, li_59, li_60, li_61, li_62, li_63, li_74, li_75, li_84, li_91, li_93, li_98, li_100, li_103, li_105, li_107, li_109, li_110, li_111, li_112, li_115, li_118, li_119, li_120, li_121, li_124, li_140, li_180, li_206, li_240, li_255, li_420, li_520, li_999, li_1000, li_1771, li_8240, li_9999, li_88200, li_1000000, li_2097151, li_31, nI_add, pk_mul, zz_sub, zz_an, nI_clamp, zz_leT, zz_leF, zz_ltT, zz_ltF, zz_eqF, zz_eqT, zz_m1, zz_m2, zz_m3, zz_m4, zz_m5, zz_m6, zz_ck, zz_bl, zz_b3, zz_b2, zz_shl, zz_bt0, zz_bt1, pk_div, Nat.zero_add, Nat.add_zero, if_true, if_false, reduceIte, Nat.mul_zero, zz_or0, zz_inT, zz_inF, i3, d1, a1, Bool.toNat_true, z]
      · rw [up_up, show p + 1 + j = p + (j + 1) by omega] at y5
        rw [← y5]
        have z : 10 * v + (48 + x) - 48 = 10 * v + x := by omega
        simp (disch := omega) only [fX12_plainNumber_b4, fX12_plainNumber_b4w, zz_lt, li_0, li_1, li_2, li_3, li_4, li_5, li_6, li_7, li_8, li_9, li_10, li_11, li_12, li_15, li_16, li_20, li_21, li_24, li_25, li_26, li_32, li_33, li_38, li_40, li_41, li_42, li_43, li_45, li_47, li_48, li_57, li_58, li_59, li_60, li_61, li_62, li_63, li_74, li_75, li_84, li_91, li_93, li_98, li_100, li_103, li_105, li_107, li_109, li_110, li_111, li_112, li_115, li_118, li_119, li_120, li_121, li_124, li_140, li_180, li_206, li_240, li_255, li_420, li_520, li_999, li_1000, li_1771, li_8240, li_9999, li_88200, li_1000000, li_2097151, li_31, nI_add, pk_mul, zz_sub, zz_an, nI_clamp, zz_leT, zz_leF, zz_ltT, zz_ltF, zz_eqF, zz_eqT, zz_m1, zz_m2, zz_m3, zz_m4, zz_m5, zz_m6, zz_ck, zz_bl, zz_b3, zz_b2, zz_shl, zz_bt0, zz_bt1, pk_div, Nat.zero_add, Nat.add_zero, if_true, if_false, reduceIte, Nat.mul_zero, zz_or0, zz_inT, zz_inF, j3, b1, b2, Bool.toNat_true, z]
    · have q' : dg n t p = false := by simpa using q
      rw [q'] at d1 b2
      refine ⟨0, v, by omega, by omega, fun z => absurd z q, ?_, ?_⟩
      · rw [Nat.add_zero p, up_id hI.2.1]
        simp (disch := omega) only [fX2_readNumber_b4, fX2_readNumber_b4w, zz_lt, li_0, li_1, li_2, li_3, li_4, li_5, li_6, li_7, li_8, li_9, li_10, li_11, li_12, li_15, li_16, li_20, li_21, li_24, li_25, li_26, li_32, li_33, li_38, li_40, li_41, li_42, li_43, li_45, li_47, li_48, li_57, li_58, li_59, li_60, li_61, li_62, li_63, li_74, li_75, li_84, li_91, li_93, li_98, li_100, li_103, li_105, li_107, li_109, li_110, li_111, li_112, li_115, li_118, li_119, li_120, li_121, li_124, li_140, li_180, li_206, li_240, li_255, li_420, li_520, li_999, li_1000, li_1771, li_8240, li_9999, li_88200, li_1000000, li_2097151, li_31, nI_add, pk_mul, zz_sub, zz_an, nI_clamp, zz_leT, zz_leF, zz_ltT, zz_ltF, zz_eqF, zz_eqT, zz_m1, zz_m2, zz_m3, zz_m4, zz_m5, zz_m6, zz_ck, zz_bl, zz_b3, zz_b2, zz_shl, zz_bt0, zz_bt1, pk_div, Nat.zero_add, Nat.add_zero, if_true, if_false, reduceIte, Nat.mul_zero, zz_or0, zz_inT, zz_inF, i3, d1, Bool.toNat_false]
      · rw [Nat.add_zero p, up_id hJ.2.1]
        simp (disch := omega) only [fX12_plainNumber_b4, fX12_plainNumber_b4w, zz_lt, li_0, li_1, li_2, li_3, li_4, li_5, li_6, li_7, li_8, li_9, li_10, li_11, li_12, li_15, li_16, li_20, li_21, li_24, li_25, li_26, li_32, li_33, li_38, li_40, li_41, li_42, li_43, li_45, li_47, li_48, li_57, li_58, li_59, li_60, li_61, li_62, li_63, li_74, li_75, li_84, li_91, li_93, li_98, li_100, li_103, li_105, li_107, li_109, li_110, li_111, li_112, li_115, li_118, li_119, li_120, li_121, li_124, li_140, li_180, li_206, li_240, li_255, li_420, li_520, li_999, li_1000, li_1771, li_8240, li_9999, li_88200, li_1000000, li_2097151, li_31, nI_add, pk_mul, zz_sub, zz_an, nI_clamp, zz_leT, zz_leF, zz_ltT, zz_ltF, zz_eqF, zz_eqT, zz_m1, zz_m2, zz_m3, zz_m4, zz_m5, zz_m6, zz_ck, zz_bl, zz_b3, zz_b2, zz_shl, zz_bt0, zz_bt1, pk_div, Nat.zero_add, Nat.add_zero, if_true, if_false, reduceIte, Nat.mul_zero, zz_or0, zz_inT, zz_inF, b1, b2, Bool.toNat_false]
theorem num_both (hG : GT n t) (f d d' : Nat) (hf : 300 < f) (LC LM : am_L) (hI : PC n t I p c) (hJ : PM n t J p (-nI 1) k s m) (hp : p ≤ n) (hd : dg n t p = true) (hc : c ≤ p) (hm : m ≤ p) (hs : s ≤ 4) : ∃ I' J', (fX2_readNumber f d I LC = some (nI 1, I', LC) ∧ am_b3 (fX12_plainNumber f d' J LM) (fun v I L => am_b2 (fX12_put f d' (nI 0) v I L) (fun I L => some (I, L))) = some (J', LM) ∧ OKx n t false 1 k s p c m I J I' J') ∨ (fX2_readNumber f d I LC = some (nI 0, I', LC) ∧ am_b3 (fX12_plainNumber f d' J LM) (fun v I L => am_b2 (fX12_put f d' (nI 0) v I L) (fun I L => some (I, L))) = some (J', LM) ∧ ERx s c m 241 I J I' J') := by
  have g := hG.1
  obtain ⟨j, v, v1, v2, v3, v4, v5⟩ := num_L hG f d d' LC LM 4 0 0 f f p I J (by omega) (by omega) (by omega) (by decide) hp hI hJ
  have j1 := v3 hd (by omega)
  have c0 : fX2_readNumber f d I LC = fX2_readNumber_b4 f d f (nI 0) (nI 0) I LC := by simp (disch := omega) only [fX2_readNumber, zz_lt, li_0, li_1, li_2, li_3, li_4, li_5, li_6, li_7, li_8, li_9, li_10, li_11, li_12, li_15, li_16, li_20, li_21, li_24, li_25, li_26, li_32, li_33, li_38, li_40, li_41, li_42, li_43, li_45, li_47, li_48, li_57, li_58, li_59, li_60, li_61, li_62, li_63, li_74, li_75, li_84, li_91, li_93, li_98, li_100, li_103, li_105, li_107, li_109, li_110, li_111, li_112, li_115, li_118, li_119, li_120, li_121, li_124, li_140, li_180, li_206, li_240, li_255, li_420, li_520, li_999, li_1000, li_1771, li_8240, li_9999, li_88200, li_1000000, li_2097151, li_31, nI_add, pk_mul, zz_sub, zz_an, nI_clamp, zz_leT, zz_leF, zz_ltT, zz_ltF, zz_eqF, zz_eqT, zz_m1, zz_m2, zz_m3, zz_m4, zz_m5, zz_m6, zz_ck, zz_bl, zz_b3, zz_b2, zz_shl, zz_bt0, zz_bt1, pk_div, Nat.zero_add, Nat.add_zero, if_true, if_false, reduceIte, Nat.mul_zero, zz_or0, zz_inT, zz_inF]
  have m0 : fX12_plainNumber f d' J LM = fX12_plainNumber_b4 f d' f (nI 0) (nI 0) J LM := by simp (disch := omega) only [fX12_plainNumber, zz_lt, li_0, li_1, li_2, li_3, li_4, li_5, li_6, li_7, li_8, li_9, li_10, li_11, li_12, li_15, li_16, li_20, li_21, li_24, li_25, li_26, li_32, li_33, li_38, li_40, li_41, li_42, li_43, li_45, li_47, li_48, li_57, li_58, li_59, li_60, li_61, li_62, li_63, li_74, li_75, li_84, li_91, li_93, li_98, li_100, li_103, li_105, li_107, li_109, li_110, li_111, li_112, li_115, li_118, li_119, li_120, li_121, li_124, li_140, li_180, li_206, li_240, li_255, li_420, li_520, li_999, li_1000, li_1771, li_8240, li_9999, li_88200, li_1000000, li_2097151, li_31, nI_add, pk_mul, zz_sub, zz_an, nI_clamp, zz_leT, zz_leF, zz_ltT, zz_ltF, zz_eqF, zz_eqT, zz_m1, zz_m2, zz_m3, zz_m4, zz_m5, zz_m6, zz_ck, zz_bl, zz_b3, zz_b2, zz_shl, zz_bt0, zz_bt1, pk_div, Nat.zero_add, Nat.add_zero, if_true, if_false, reduceIte, Nat.mul_zero, zz_or0, zz_inT, zz_inF]
  have pI := PC_go hI (p + j)
  have pJ := PM_3 hJ (p + j)
  have i3 := pI.2.1
  have d1 := pc_dg hG f d pI.1 LC (i := p + j) (by omega)
  have b1 := lm_here hG f d' LM pJ v2
  have b2 := pm_dg hG f d' (am_up J 0 3 (nI (p + j))) LM (p + j)
  rw [c0, m0, v4, v5]
  by_cases q : dg n t (p + j) = true
  · rw [q] at d1 b2
    have bad := lm_bad f d' LM pJ rfl
    have h14 : (am_up (am_up J 0 3 (nI (p + j))) 0 4 (nI (p + j))) 0 14 = nI s := by rw [up_n (by omega)]; exact pJ.2.2.2.2.1
    have h4 : (am_up (am_up J 0 3 (nI (p + j))) 0 4 (nI (p + j))) 4 s = nI m := by rw [am_up_ne (by omega)]; exact pJ.2.2.2.2.2
    have pt := lm_put f d' LM h14 h4 hs (by omega) (nI 0) (nI v)
    refine ⟨am_up I 27 3 (nI (p + j)), am_up (am_up (am_up (am_up (am_up J 0 3 (nI (p + j))) 0 4 (nI (p + j))) 2 (520 * s + m) (nI 0)) 3 (520 * s + m) (nI v)) 4 s (nI (m + 1)), Or.inr ⟨?_, ?_, p + j, i3, ⟨?_, by omega, ?_, m + 1, by omega, by omega, up_s rfl⟩, FC_27 _ _ _ _, FM_tr (FM_tr (FM_0 s m J (Or.inl rfl) _) (FM_0 s m _ (Or.inr (Or.inl rfl)) _) (Nat.le_refl _)) (FM_put _ s m (nI 0) (nI v) (nI (m + 1))) (Nat.le_refl _)⟩⟩
    · simp (disch := omega) only [fX2_readNumber_b59, zz_lt, li_0, li_1, li_2, li_3, li_4, li_5, li_6, li_7, li_8, li_9, li_10, li_11, li_12, li_15, li_16, li_20, li_21, li_24, li_25, li_26, li_32, li_33, li_38, li_40, li_41, li_42, li_43, li_45, li_47, li_48, li_57, li_58, li_59, li_60, li_61, li_62, li_63, li_74, li_75, li_84, li_91, li_93, li_98, li_100, li_103, li_105, li_107, li_109, li_110, li_111, li_112, li_115, li_118, li_119, li_120, li_121, li_124, li_140, li_180, li_206, li_240, li_255, li_420, li_520, li_999, li_1000, li_1771, li_8240, li_9999, li_88200, li_1000000, li_2097151, li_31, nI_add, pk_mul, zz_sub, zz_an, nI_clamp, zz_leT, zz_leF, zz_ltT, zz_ltF, zz_eqF, zz_eqT, zz_m1, zz_m2, zz_m3, zz_m4, zz_m5, zz_m6, zz_ck, zz_bl, zz_b3, zz_b2, zz_shl, zz_bt0, zz_bt1, pk_div, Nat.zero_add, Nat.add_zero, if_true, if_false, reduceIte, Nat.mul_zero, zz_or0, zz_inT, zz_inF, i3, d1, Bool.toNat_true]
    · simp (disch := omega) only [fX12_plainNumber_b48, zz_lt, li_0, li_1, li_2, li_3, li_4, li_5, li_6, li_7, li_8, li_9, li_10, li_11, li_12, li_15, li_16, li_20, li_21, li_24, li_25, li_26, li_32, li_33, li_38, li_40, li_41, li_42, li_43, li_45, li_47, li_48, li_57, li_58, li_59, li_60, li_61, li_62, li_63, li_74, li_75, li_84, li_91, li_93, li_98, li_100, li_103, li_105, li_107, li_109, li_110, li_111, li_112, li_115, li_118, li_119, li_120, li_121, li_124, li_140, li_180, li_206, li_240, li_255, li_420, li_520, li_999, li_1000, li_1771, li_8240, li_9999, li_88200, li_1000000, li_2097151, li_31, nI_add, pk_mul, zz_sub, zz_an, nI_clamp, zz_leT, zz_leF, zz_ltT, zz_ltF, zz_eqF, zz_eqT, zz_m1, zz_m2, zz_m3, zz_m4, zz_m5, zz_m6, zz_ck, zz_bl, zz_b3, zz_b2, zz_shl, zz_bt0, zz_bt1, pk_div, Nat.zero_add, Nat.add_zero, if_true, if_false, reduceIte, Nat.mul_zero, zz_or0, zz_inT, zz_inF, b1, b2, Bool.toNat_true, bad, pt]
    · rw [am_up_ne (by omega), am_up_ne (by omega), am_up_ne (by omega), up_s rfl]
    · rw [am_up_ne (by omega), am_up_ne (by omega), am_up_ne (by omega)]; exact h14
  · have q' : dg n t (p + j) = false := by simpa using q
    rw [q'] at d1 b2
    have pc := lc_put f d LC pI (by omega) (nI v)
    have pP := PC_put pI (nI v)
    have bb := pc_bb hG f d hf pP.1 LC (i := p + j) (by omega)
    have p3 := pP.2.1
    have pt := lm_put f d' LM pJ.2.2.2.2.1 pJ.2.2.2.2.2 hs (by omega) (nI 0) (nI v)
    have pQ := PM_put pJ (nI 0) (nI v)
    have e1 : cw v = nI v := by unfold cw; rw [if_pos v1]
    have e2 : mk v = nI 0 := by unfold mk; rw [if_pos v1]
    have e3 : mv v = nI v := by unfold mv; rw [if_pos v1]
    refine ⟨am_up (am_up (am_up (am_up I 27 3 (nI (p + j))) 28 c (nI v)) 27 2 (nI (c + 1))) 27 3 (nI (nb n t (p + j))), am_up (am_up (am_up (am_up J 0 3 (nI (p + j))) 2 (520 * s + m) (nI 0)) 3 (520 * s + m) (nI v)) 4 s (nI (m + 1)), Or.inl ⟨?_, ?_, [v], nb n t (p + j), p + j, EX_num v1, PC_go pP (nb n t (p + j)), pQ, rfl, v2, ?_, ⟨?_, trivial⟩, ⟨?_, trivial⟩, ⟨?_, trivial⟩, FC_tr (FC_tr (FC_27 c I 3 _) (FC_put _ c (nI v) _) (Nat.le_refl _)) (FC_27 c _ 3 _) (Nat.le_refl _), FM_tr (FM_0 s m J (Or.inl rfl) _) (FM_put _ s m (nI 0) (nI v) (nI (m + 1))) (Nat.le_refl _)⟩⟩
    · simp (disch := omega) only [fX2_readNumber_b59, zz_lt, li_0, li_1, li_2, li_3, li_4, li_5, li_6, li_7, li_8, li_9, li_10, li_11, li_12, li_15, li_16, li_20, li_21, li_24, li_25, li_26, li_32, li_33, li_38, li_40, li_41, li_42, li_43, li_45, li_47, li_48, li_57, li_58, li_59, li_60, li_61, li_62, li_63, li_74, li_75, li_84, li_91, li_93, li_98, li_100, li_103, li_105, li_107, li_109, li_110, li_111, li_112, li_115, li_118, li_119, li_120, li_121, li_124, li_140, li_180, li_206, li_240, li_255, li_420, li_520, li_999, li_1000, li_1771, li_8240, li_9999, li_88200, li_1000000, li_2097151, li_31, nI_add, pk_mul, zz_sub, zz_an, nI_clamp, zz_leT, zz_leF, zz_ltT, zz_ltF, zz_eqF, zz_eqT, zz_m1, zz_m2, zz_m3, zz_m4, zz_m5, zz_m6, zz_ck, zz_bl, zz_b3, zz_b2, zz_shl, zz_bt0, zz_bt1, pk_div, Nat.zero_add, Nat.add_zero, if_true, if_false, reduceIte, Nat.mul_zero, zz_or0, zz_inT, zz_inF, i3, d1, Bool.toNat_false, pc, p3, bb]
    · simp (disch := omega) only [fX12_plainNumber_b48, zz_lt, li_0, li_1, li_2, li_3, li_4, li_5, li_6, li_7, li_8, li_9, li_10, li_11, li_12, li_15, li_16, li_20, li_21, li_24, li_25, li_26, li_32, li_33, li_38, li_40, li_41, li_42, li_43, li_45, li_47, li_48, li_57, li_58, li_59, li_60, li_61, li_62, li_63, li_74, li_75, li_84, li_91, li_93, li_98, li_100, li_103, li_105, li_107, li_109, li_110, li_111, li_112, li_115, li_118, li_119, li_120, li_121, li_124, li_140, li_180, li_206, li_240, li_255, li_420, li_520, li_999, li_1000, li_1771, li_8240, li_9999, li_88200, li_1000000, li_2097151, li_31, nI_add, pk_mul, zz_sub, zz_an, nI_clamp, zz_leT, zz_leF, zz_ltT, zz_ltF, zz_eqF, zz_eqT, zz_m1, zz_m2, zz_m3, zz_m4, zz_m5, zz_m6, zz_ck, zz_bl, zz_b3, zz_b2, zz_shl, zz_bt0, zz_bt1, pk_div, Nat.zero_add, Nat.add_zero, if_true, if_false, reduceIte, Nat.mul_zero, zz_or0, zz_inT, zz_inF, b1, b2, Bool.toNat_false, pt]
    · have := nb_ge n t (p + j)
      show p + 1 ≤ _
      omega
    · rw [am_up_ne (by omega), am_up_ne (by omega), up_s rfl, e1]
    · rw [am_up_ne (by omega), am_up_ne (by omega), up_s rfl, e2]
    · rw [am_up_ne (by omega), up_s rfl, e3]
end
