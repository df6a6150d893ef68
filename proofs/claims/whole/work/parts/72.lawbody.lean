/-! PURE: whole clauses of a law's text. -/
theorem fcond_of {f d : Nat} {J J' : am_I} {L L' : am_L} {v : Int32} (h : gX12_condition f d 0 (nI 0) (nI 0) (nI 0) (nI 0) (nI 0) J L = some (v, J', L')) : fX12_condition f d J L = some (J', L') := by
  unfold fX12_condition
  exact congrArg (fun x => am_b3 x (fun _ I L => some (I, L))) h
theorem fand_of {f d : Nat} {J J' : am_I} {L L' : am_L} {v : Int32} (h : gX12_condition f d 2 (nI 0) (nI 0) (nI 0) (nI 0) (nI 0) J L = some (v, J', L')) : fX12_goOnAnd f d J L = some (J', L') := by
  unfold fX12_goOnAnd
  exact congrArg (fun x => am_b3 x (fun _ I L => some (I, L))) h
theorem for_of {f d : Nat} {J J' : am_I} {L L' : am_L} {v : Int32} (h : gX12_condition f d 3 (nI 0) (nI 0) (nI 0) (nI 0) (nI 0) J L = some (v, J', L')) : fX12_goOnOr f d J L = some (J', L') := by
  unfold fX12_goOnOr
  exact congrArg (fun x => am_b3 x (fun _ I L => some (I, L))) h
section
variable {n : Nat} {t : Nat → Nat} {I J I0 J0 : am_I} {s j m c p0 pp : Nat}
theorem sgn (hG : GT n t) (f d d' p : Nat) : (∃ z : Int32, (z = nI 0) = False ∧ (∀ I L, fX2_comparisonOf f d (zn (bx n t p)) I L = some (z, I, L)) ∧ (∀ J L, fX12_isSign f d' (zn (bx n t p)) J L = some (nI 1, J, L))) ∨ ((∀ I L, fX2_comparisonOf f d (zn (bx n t p)) I L = some (nI 0, I, L)) ∧ (∀ J L, fX12_isSign f d' (zn (bx n t p)) J L = some (nI 0, J, L))) := by
  by_cases q61 : bx n t p = 62
  · have zb : zn (bx n t p) = nI 61 := by rw [q61]; rfl
    rw [zb]
    exact Or.inl ⟨-nI 15, zz_m2 (by omega), fun I L => by simp (disch := omega) only [fX2_comparisonOf, zz_lt, li_0, li_1, li_2, li_3, li_4, li_5, li_6, li_7, li_8, li_9, li_10, li_11, li_12, li_15, li_16, li_20, li_21, li_24, li_25, li_26, li_32, li_33, li_38, li_40, li_41, li_42, li_43, li_45, li_47, li_48, li_57, li_58, li_59, li_60, li_61, li_62, li_63, li_74, li_75, li_84, li_91, li_93, li_98, li_100, li_103, li_105, li_107, li_109, li_110, li_111, li_112, li_115, li_118, li_119, li_120, li_121, li_124, li_140, li_180, li_206, li_240, li_255, li_420, li_520, li_999, li_1000, li_1771, li_8240, li_9999, li_88200, li_1000000, li_2097151, li_31, nI_add, pk_mul, zz_sub, zz_an, nI_clamp, zz_leT, zz_leF, zz_ltT, zz_ltF, zz_eqF, zz_eqT, zz_m1, zz_m2, zz_m3, zz_m4, zz_m5, zz_m6, zz_ck, zz_bl, zz_b3, zz_b2, zz_shl, zz_bt0, zz_bt1, pk_div, Nat.zero_add, Nat.add_zero, if_true, if_false, reduceIte, Nat.mul_zero, zz_or0, zz_inT, zz_inF], fun J L => by simp (disch := omega) only [fX12_isSign, fX12_isSign_b18, zz_lt, li_0, li_1, li_2, li_3, li_4, li_5, li_6, li_7, li_8, li_9, li_10, li_11, li_12, li_15, li_16, li_20, li_21, li_24, li_25, li_26, li_32, li_33, li_38, li_40, li_41, li_42, li_43, li_45, li_47, li_48, li_57, li_58, li_59, li_60, li_61, li_62, li_63, li_74, li_75, li_84, li_91, li_93, li_98, li_100, li_103, li_105, li_107, li_109, li_110, li_111, li_112, li_115, li_118, li_119, li_120, li_121, li_124, li_140, li_180, li_206, li_240, li_255, li_420, li_520, li_999, li_1000, li_1771, li_8240, li_9999, li_88200, li_1000000, li_2097151, li_31, nI_add, pk_mul, zz_sub, zz_an, nI_clamp, zz_leT, zz_leF, zz_ltT, zz_ltF, zz_eqF, zz_eqT, zz_m1, zz_m2, zz_m3, zz_m4, zz_m5, zz_m6, zz_ck, zz_bl, zz_b3, zz_b2, zz_shl, zz_bt0, zz_bt1, pk_div, Nat.zero_add, Nat.add_zero, if_true, if_false, reduceIte, Nat.mul_zero, zz_or0, zz_inT, zz_inF]⟩
  by_cases q60 : bx n t p = 61
  · have zb : zn (bx n t p) = nI 60 := by rw [q60]; rfl
    rw [zb]
    exact Or.inl ⟨-nI 16, zz_m2 (by omega), fun I L => by simp (disch := omega) only [fX2_comparisonOf, zz_lt, li_0, li_1, li_2, li_3, li_4, li_5, li_6, li_7, li_8, li_9, li_10, li_11, li_12, li_15, li_16, li_20, li_21, li_24, li_25, li_26, li_32, li_33, li_38, li_40, li_41, li_42, li_43, li_45, li_47, li_48, li_57, li_58, li_59, li_60, li_61, li_62, li_63, li_74, li_75, li_84, li_91, li_93, li_98, li_100, li_103, li_105, li_107, li_109, li_110, li_111, li_112, li_115, li_118, li_119, li_120, li_121, li_124, li_140, li_180, li_206, li_240, li_255, li_420, li_520, li_999, li_1000, li_1771, li_8240, li_9999, li_88200, li_1000000, li_2097151, li_31, nI_add, pk_mul, zz_sub, zz_an, nI_clamp, zz_leT, zz_leF, zz_ltT, zz_ltF, zz_eqF, zz_eqT, zz_m1, zz_m2, zz_m3, zz_m4, zz_m5, zz_m6, zz_ck, zz_bl, zz_b3, zz_b2, zz_shl, zz_bt0, zz_bt1, pk_div, Nat.zero_add, Nat.add_zero, if_true, if_false, reduceIte, Nat.mul_zero, zz_or0, zz_inT, zz_inF], fun J L => by simp (disch := omega) only [fX12_isSign, fX12_isSign_b18, zz_lt, li_0, li_1, li_2, li_3, li_4, li_5, li_6, li_7, li_8, li_9, li_10, li_11, li_12, li_15, li_16, li_20, li_21, li_24, li_25, li_26, li_32, li_33, li_38, li_40, li_41, li_42, li_43, li_45, li_47, li_48, li_57, li_58, li_59, li_60, li_61, li_62, li_63, li_74, li_75, li_84, li_91, li_93, li_98, li_100, li_103, li_105, li_107, li_109, li_110, li_111, li_112, li_115, li_118, li_119, li_120, li_121, li_124, li_140, li_180, li_206, li_240, li_255, li_420, li_520, li_999, li_1000, li_1771, li_8240, li_9999, li_88200, li_1000000, li_2097151, li_31, nI_add, pk_mul, zz_sub, zz_an, nI_clamp, zz_leT, zz_leF, zz_ltT, zz_ltF, zz_eqF, zz_eqT, zz_m1, zz_m2, zz_m3, zz_m4, zz_m5, zz_m6, zz_ck, zz_bl, zz_b3, zz_b2, zz_shl, zz_bt0, zz_bt1, pk_div, Nat.zero_add, Nat.add_zero, if_true, if_false, reduceIte, Nat.mul_zero, zz_or0, zz_inT, zz_inF]⟩
  by_cases q62 : bx n t p = 63
  · have zb : zn (bx n t p) = nI 62 := by rw [q62]; rfl
    rw [zb]
    exact Or.inl ⟨-nI 17, zz_m2 (by omega), fun I L => by simp (disch := omega) only [fX2_comparisonOf, lj_17, zz_lt, li_0, li_1, li_2, li_3, li_4, li_5, li_6, li_7, li_8, li_9, li_10, li_11, li_12, li_15, li_16, li_20, li_21, li_24, li_25, li_26, li_32, li_33, li_38, li_40, li_41, li_42, li_43, li_45, li_47, li_48, li_57, li_58, li_59, li_60, li_61, li_62, li_63, li_74, li_75, li_84, li_91, li_93, li_98, li_100, li_103, li_105, li_107, li_109, li_110, li_111, li_112, li_115, li_118, li_119, li_120, li_121, li_124, li_140, li_180, li_206, li_240, li_255, li_420, li_520, li_999, li_1000, li_1771, li_8240, li_9999, li_88200, li_1000000, li_2097151, li_31, nI_add, pk_mul, zz_sub, zz_an, nI_clamp, zz_leT, zz_leF, zz_ltT, zz_ltF, zz_eqF, zz_eqT, zz_m1, zz_m2, zz_m3, zz_m4, zz_m5, zz_m6, zz_ck, zz_bl, zz_b3, zz_b2, zz_shl, zz_bt0, zz_bt1, pk_div, Nat.zero_add, Nat.add_zero, if_true, if_false, reduceIte, Nat.mul_zero, zz_or0, zz_inT, zz_inF], fun J L => by simp (disch := omega) only [fX12_isSign, fX12_isSign_b18, zz_lt, li_0, li_1, li_2, li_3, li_4, li_5, li_6, li_7, li_8, li_9, li_10, li_11, li_12, li_15, li_16, li_20, li_21, li_24, li_25, li_26, li_32, li_33, li_38, li_40, li_41, li_42, li_43, li_45, li_47, li_48, li_57, li_58, li_59, li_60, li_61, li_62, li_63, li_74, li_75, li_84, li_91, li_93, li_98, li_100, li_103, li_105, li_107, li_109, li_110, li_111, li_112, li_115, li_118, li_119, li_120, li_121, li_124, li_140, li_180, li_206, li_240, li_255, li_420, li_520, li_999, li_1000, li_1771, li_8240, li_9999, li_88200, li_1000000, li_2097151, li_31, nI_add, pk_mul, zz_sub, zz_an, nI_clamp, zz_leT, zz_leF, zz_ltT, zz_ltF, zz_eqF, zz_eqT, zz_m1, zz_m2, zz_m3, zz_m4, zz_m5, zz_m6, zz_ck, zz_bl, zz_b3, zz_b2, zz_shl, zz_bt0, zz_bt1, pk_div, Nat.zero_add, Nat.add_zero, if_true, if_false, reduceIte, Nat.mul_zero, zz_or0, zz_inT, zz_inF]⟩
  have n1 : (zn (bx n t p) = nI 61) = False := (zn_ch (bx_le hG p) (by omega)).trans (eq_false q61)
  have n2 : (zn (bx n t p) = nI 60) = False := (zn_ch (bx_le hG p) (by omega)).trans (eq_false q60)
  have n3 : (zn (bx n t p) = nI 62) = False := (zn_ch (bx_le hG p) (by omega)).trans (eq_false q62)
  exact Or.inr ⟨fun I L => by simp (disch := omega) only [fX2_comparisonOf, zz_lt, li_0, li_1, li_2, li_3, li_4, li_5, li_6, li_7, li_8, li_9, li_10, li_11, li_12, li_15, li_16, li_20, li_21, li_24, li_25, li_26, li_32, li_33, li_38, li_40, li_41, li_42, li_43, li_45, li_47, li_48, li_57, li_58, li_59, li_60, li_61, li_62, li_63, li_74, li_75, li_84, li_91, li_93, li_98, li_100, li_103, li_105, li_107, li_109, li_110, li_111, li_112, li_115, li_118, li_119, li_120, li_121, li_124, li_140, li_180, li_206, li_240, li_255, li_420, li_520, li_999, li_1000, li_1771, li_8240, li_9999, li_88200, li_1000000, li_2097151, li_31, nI_add, pk_mul, zz_sub, zz_an, nI_clamp, zz_leT, zz_leF, zz_ltT, zz_ltF, zz_eqF, zz_eqT, zz_m1, zz_m2, zz_m3, zz_m4, zz_m5, zz_m6, zz_ck, zz_bl, zz_b3, zz_b2, zz_shl, zz_bt0, zz_bt1, pk_div, Nat.zero_add, Nat.add_zero, if_true, if_false, reduceIte, Nat.mul_zero, zz_or0, zz_inT, zz_inF, n1, n2, n3], fun J L => by simp (disch := omega) only [fX12_isSign, fX12_isSign_b18, zz_lt, li_0, li_1, li_2, li_3, li_4, li_5, li_6, li_7, li_8, li_9, li_10, li_11, li_12, li_15, li_16, li_20, li_21, li_24, li_25, li_26, li_32, li_33, li_38, li_40, li_41, li_42, li_43, li_45, li_47, li_48, li_57, li_58, li_59, li_60, li_61, li_62, li_63, li_74, li_75, li_84, li_91, li_93, li_98, li_100, li_103, li_105, li_107, li_109, li_110, li_111, li_112, li_115, li_118, li_119, li_120, li_121, li_124, li_140, li_180, li_206, li_240, li_255, li_420, li_520, li_999, li_1000, li_1771, li_8240, li_9999, li_88200, li_1000000, li_2097151, li_31, nI_add, pk_mul, zz_sub, zz_an, nI_clamp, zz_leT, zz_leF, zz_ltT, zz_ltF, zz_eqF, zz_eqT, zz_m1, zz_m2, zz_m3, zz_m4, zz_m5, zz_m6, zz_ck, zz_bl, zz_b3, zz_b2, zz_shl, zz_bt0, zz_bt1, pk_div, Nat.zero_add, Nat.add_zero, if_true, if_false, reduceIte, Nat.mul_zero, zz_or0, zz_inT, zz_inF, n1, n2, n3]⟩
/-- a clause's condition (or not) and what follows -/
theorem body_c (hG : GT n t) (f dC dM : Nat) (hf : 300 < f) (hC : 40 ≤ dC) (hM : 40 ≤ dM) (LC LM : am_L) (hI : PC n t I0 p0 c) (hJ : PM n t J0 p0 (-nI 1) 0 s m) (hn : nb n t p0 = p0) (hp : p0 ≤ n) (h6 : J0 6 (140 * s + j) = nI m) (h5 : J0 5 s = nI j) (hs : s ≤ 4) (hj : j < 140) (hc : c + 1 ≤ p0) (hm : m ≤ p0) (hpp : pp + 1 ≤ p0) : RES n t LC LM s j pp c m I0 J0 (fX2_readClause_b49 f dC (nI 1) I0 LC) (fX12_clause_b128 f dM (nI 1) (nI (140 * s + j)) J0 LM) := by
  have hsum : RX n t LC LM false 15 255 0 (fun I => gX2_readSum f dC 0 (nI 0) (nI 0) (nI 0) (nI 0) (nI 0) I LC) (fun J => gX12_sum f dM 0 (nI 0) (nI 0) (nI 0) (nI 0) (nI 0) J LM) := sum_all hG f hf LC LM 6 0 dC dM rfl (by omega) (by omega)
  have hcond : RX n t LC LM true 18 258 0 (fun I => gX2_readCondition f dC 0 (nI 0) (nI 0) (nI 0) (nI 0) (nI 0) I LC) (fun J => gX12_condition f dM 0 (nI 0) (nI 0) (nI 0) (nI 0) (nI 0) J LM) := cond_of hG f hf LC LM (k := 0) (u := 28) (by omega) (unit_all hG f hf LC LM 6 0 rfl) dC dM (by omega) (by omega)
  obtain ⟨I, J, v, r | r⟩ := hcond I0 J0 p0 c p0 s m hI hJ hn hp (by omega) hm hs
  · obtain ⟨r1, r2, A, p, a, w⟩ := r
    have r1' : fX2_readCondition f dC (nI 0) I0 LC = some (nI 1, I, LC) := r1
    have r2' := fcond_of r2
    have x1 : fX2_readClause_b49 f dC (nI 1) I0 LC = fX2_readClause_b125 f dC (nI 1) (nI 1) I LC := by
      simp (disch := omega) only [fX2_readClause_b49, fX2_readClause_b67, zz_lt, li_0, li_1, li_2, li_3, li_4, li_5, li_6, li_7, li_8, li_9, li_10, li_11, li_12, li_15, li_16, li_20, li_21, li_24, li_25, li_26, li_32, li_33, li_38, li_40, li_41, li_42, li_43, li_45, li_47, li_48, li_57, li_58, li_59, li_60, li_61, li_62, li_63, li_74, li_75, li_84, li_91, li_93, li_98, li_100, li_103, li_105, li_107, li_109, li_110, li_111, li_112, li_115, li_118, li_119, li_120, li_121, li_124, li_140, li_180, li_206, li_240, li_255, li_420, li_520, li_999, li_1000, li_1771, li_8240, li_9999, li_88200, li_1000000, li_2097151, li_31, nI_add, pk_mul, zz_sub, zz_an, nI_clamp, zz_leT, zz_leF, zz_ltT, zz_ltF, zz_eqF, zz_eqT, zz_m1, zz_m2, zz_m3, zz_m4, zz_m5, zz_m6, zz_ck, zz_bl, zz_b3, zz_b2, zz_shl, zz_bt0, zz_bt1, pk_div, Nat.zero_add, Nat.add_zero, if_true, if_false, reduceIte, Nat.mul_zero, zz_or0, zz_inT, zz_inF, r1']
    have x2 : fX12_clause_b128 f dM (nI 1) (nI (140 * s + j)) J0 LM = fX12_clause_b184 f dM (nI (140 * s + j)) (nI 1) J LM := by
      simp (disch := omega) only [fX12_clause_b128, zz_lt, li_0, li_1, li_2, li_3, li_4, li_5, li_6, li_7, li_8, li_9, li_10, li_11, li_12, li_15, li_16, li_20, li_21, li_24, li_25, li_26, li_32, li_33, li_38, li_40, li_41, li_42, li_43, li_45, li_47, li_48, li_57, li_58, li_59, li_60, li_61, li_62, li_63, li_74, li_75, li_84, li_91, li_93, li_98, li_100, li_103, li_105, li_107, li_109, li_110, li_111, li_112, li_115, li_118, li_119, li_120, li_121, li_124, li_140, li_180, li_206, li_240, li_255, li_420, li_520, li_999, li_1000, li_1771, li_8240, li_9999, li_88200, li_1000000, li_2097151, li_31, nI_add, pk_mul, zz_sub, zz_an, nI_clamp, zz_leT, zz_leF, zz_ltT, zz_ltF, zz_eqF, zz_eqT, zz_m1, zz_m2, zz_m3, zz_m4, zz_m5, zz_m6, zz_ck, zz_bl, zz_b3, zz_b2, zz_shl, zz_bt0, zz_bt1, pk_div, Nat.zero_add, Nat.add_zero, if_true, if_false, reduceIte, Nat.mul_zero, zz_or0, zz_inT, zz_inF, r2']
    rw [x1, x2]
    exact ans_both hG f dC dM hf LC LM hsum w h6 h5 hs hj hc hm hpp
  · obtain ⟨r1, r2, r3⟩ := r
    have r1' : fX2_readCondition f dC (nI 0) I0 LC = some (nI 0, I, LC) := r1
    have r2' := fcond_of r2
    have x1 : fX2_readClause_b49 f dC (nI 1) I0 LC = fX2_readClause_b125 f dC (nI 1) (nI 0) I LC := by
      simp (disch := omega) only [fX2_readClause_b49, fX2_readClause_b67, zz_lt, li_0, li_1, li_2, li_3, li_4, li_5, li_6, li_7, li_8, li_9, li_10, li_11, li_12, li_15, li_16, li_20, li_21, li_24, li_25, li_26, li_32, li_33, li_38, li_40, li_41, li_42, li_43, li_45, li_47, li_48, li_57, li_58, li_59, li_60, li_61, li_62, li_63, li_74, li_75, li_84, li_91, li_93, li_98, li_100, li_103, li_105, li_107, li_109, li_110, li_111, li_112, li_115, li_118, li_119, li_120, li_121, li_124, li_140, li_180, li_206, li_240, li_255, li_420, li_520, li_999, li_1000, li_1771, li_8240, li_9999, li_88200, li_1000000, li_2097151, li_31, nI_add, pk_mul, zz_sub, zz_an, nI_clamp, zz_leT, zz_leF, zz_ltT, zz_ltF, zz_eqF, zz_eqT, zz_m1, zz_m2, zz_m3, zz_m4, zz_m5, zz_m6, zz_ck, zz_bl, zz_b3, zz_b2, zz_shl, zz_bt0, zz_bt1, pk_div, Nat.zero_add, Nat.add_zero, if_true, if_false, reduceIte, Nat.mul_zero, zz_or0, zz_inT, zz_inF, r1']
    have x2 : fX12_clause_b128 f dM (nI 1) (nI (140 * s + j)) J0 LM = fX12_clause_b184 f dM (nI (140 * s + j)) (nI 1) J LM := by
      simp (disch := omega) only [fX12_clause_b128, zz_lt, li_0, li_1, li_2, li_3, li_4, li_5, li_6, li_7, li_8, li_9, li_10, li_11, li_12, li_15, li_16, li_20, li_21, li_24, li_25, li_26, li_32, li_33, li_38, li_40, li_41, li_42, li_43, li_45, li_47, li_48, li_57, li_58, li_59, li_60, li_61, li_62, li_63, li_74, li_75, li_84, li_91, li_93, li_98, li_100, li_103, li_105, li_107, li_109, li_110, li_111, li_112, li_115, li_118, li_119, li_120, li_121, li_124, li_140, li_180, li_206, li_240, li_255, li_420, li_520, li_999, li_1000, li_1771, li_8240, li_9999, li_88200, li_1000000, li_2097151, li_31, nI_add, pk_mul, zz_sub, zz_an, nI_clamp, zz_leT, zz_leF, zz_ltT, zz_ltF, zz_eqF, zz_eqT, zz_m1, zz_m2, zz_m3, zz_m4, zz_m5, zz_m6, zz_ck, zz_bl, zz_b3, zz_b2, zz_shl, zz_bt0, zz_bt1, pk_div, Nat.zero_add, Nat.add_zero, if_true, if_false, reduceIte, Nat.mul_zero, zz_or0, zz_inT, zz_inF, r2']
    rw [x1, x2]
    exact err_both f dC dM LC LM (nI 1) 1 (by omega) r3 h5 hs hj
theorem body_s (hG : GT n t) (f dC dM : Nat) (hf : 300 < f) (hC : 40 ≤ dC) (hM : 40 ≤ dM) (LC LM : am_L) (hI : PC n t I0 p0 c) (hJ : PM n t J0 p0 (-nI 1) 0 s m) (hn : nb n t p0 = p0) (hp : p0 ≤ n) (h6 : J0 6 (140 * s + j) = nI m) (h5 : J0 5 s = nI j) (hs : s ≤ 4) (hj : j < 140) (hc : c + 1 ≤ p0) (hm : m ≤ p0) (hpp : pp + 1 ≤ p0) : RES n t LC LM s j pp c m I0 J0 (fX2_readClause_b49 f dC (nI 0) I0 LC) (fX12_clause_b128 f dM (nI 0) (nI (140 * s + j)) J0 LM) := by
  have hsum : RX n t LC LM false 15 255 0 (fun I => gX2_readSum f dC 0 (nI 0) (nI 0) (nI 0) (nI 0) (nI 0) I LC) (fun J => gX12_sum f dM 0 (nI 0) (nI 0) (nI 0) (nI 0) (nI 0) J LM) := sum_all hG f hf LC LM 6 0 dC dM rfl (by omega) (by omega)
  have hU := unit_all hG f hf LC LM 6 0 rfl
  have hand : RZ n t LC LM true true 16 17 257 0 (fun I => gX2_readCondition f dC 2 (nI 0) (nI 0) (nI 0) (nI 0) (nI 0) I LC) (fun J => gX12_condition f dM 2 (nI 0) (nI 0) (nI 0) (nI 0) (nI 0) J LM) := and_of hG f hf LC LM (k := 0) (u := 28) (by omega) hU dC dM (by omega) (by omega)
  have hor : RZ n t LC LM true true 17 18 258 0 (fun I => gX2_readCondition f dC 3 (nI 0) (nI 0) (nI 0) (nI 0) (nI 0) I LC) (fun J => gX12_condition f dM 3 (nI 0) (nI 0) (nI 0) (nI 0) (nI 0) J LM) := or_of hG f hf LC LM (k := 0) (u := 28) (by omega) hU dC dM (by omega) (by omega)
  have hst2 : ∀ (J : am_I) (s m E e : Nat), MF J s m E e → fX12_goOnAnd f dM J LM = some (J, LM) := by
    obtain ⟨d, rfl⟩ : ∃ d, dM = d + 1 := ⟨dM - 1, by omega⟩
    exact fun J s m E e h => fand_of (and_st f d (by omega) LM J s m E e h)
  have hst3 : ∀ (J : am_I) (s m E e : Nat), MF J s m E e → fX12_goOnOr f dM J LM = some (J, LM) := by
    obtain ⟨d, rfl⟩ : ∃ d, dM = d + 1 := ⟨dM - 1, by omega⟩
    exact fun J s m E e h => for_of (or_st f d (by omega) LM J s m E e h)
  obtain ⟨I, J, v, r | r⟩ := hsum I0 J0 p0 c p0 s m hI hJ hn hp (by omega) hm hs
  · obtain ⟨r1, r2, A, p, a, w⟩ := r
    have r1' : fX2_readSum f dC (nI 0) I0 LC = some (nI 1, I, LC) := r1
    have r2' := fsum_of r2
    obtain ⟨e1, e2, e3, e4, e5, e6, e7, e8, e9, e10, e11⟩ := w
    have pn : p ≤ n := by rw [← e4]; exact nb_le e5
    have at1 := lc_at hG f dC LC e2 pn
    have i3 := e2.2.1
    have h4 := e3.2.2.1
    have lk := lm_look hG f dM hf LM e3 e5
    rw [e4] at lk
    have w' : OKw n t false 15 0 s p0 c m I0 J0 I (am_up J 0 3 (nI p)) A p p := ⟨e1, e2, PM_3 e3 p, by rw [← e4]; exact nb_id e5, pn, e6, e7, by rw [am_up_ne (by omega)]; exact e8, by rw [am_up_ne (by omega)]; exact e9, e10, FM_tr e11 (FM_0 s _ J (Or.inl rfl) _) (by omega)⟩
    obtain ⟨J', hJ'⟩ : ∃ J', J' = am_up J 0 3 (nI p) := ⟨_, rfl⟩
    rw [← hJ'] at lk w'
    rcases sgn hG f dC dM p with ⟨z, z0, z1, z2⟩ | ⟨z1, z2⟩
    · have y1 : fX2_readClause_b49 f dC (nI 0) I0 LC = am_b3 (fX2_readComparison f dC (nI 0) I LC) (fun v5 I5 L5 => if v5 = nI 0 then (fX2_readClause_b125 f dC (nI 1) (nI 0) I5 L5) else (am_b3 (fX2_readMoreUnits f dC (nI 0) I5 L5) (fun v6 I6 L6 => if v6 = nI 0 then (fX2_readClause_b125 f dC (nI 1) (nI 0) I6 L6) else (am_b3 (fX2_readMoreTruths f dC (nI 0) I6 L6) (fun v7 I7 L7 => if v7 = nI 0 then (fX2_readClause_b125 f dC (nI 1) (nI 0) I7 L7) else (fX2_readClause_b125 f dC (nI 1) (nI 1) I7 L7)))))) := by
        simp (disch := omega) only [fX2_readClause_b49, fX2_readClause_b67, fX2_readClause_b123, fX2_readClause_b124, zz_lt, li_0, li_1, li_2, li_3, li_4, li_5, li_6, li_7, li_8, li_9, li_10, li_11, li_12, li_15, li_16, li_20, li_21, li_24, li_25, li_26, li_32, li_33, li_38, li_40, li_41, li_42, li_43, li_45, li_47, li_48, li_57, li_58, li_59, li_60, li_61, li_62, li_63, li_74, li_75, li_84, li_91, li_93, li_98, li_100, li_103, li_105, li_107, li_109, li_110, li_111, li_112, li_115, li_118, li_119, li_120, li_121, li_124, li_140, li_180, li_206, li_240, li_255, li_420, li_520, li_999, li_1000, li_1771, li_8240, li_9999, li_88200, li_1000000, li_2097151, li_31, nI_add, pk_mul, zz_sub, zz_an, nI_clamp, zz_leT, zz_leF, zz_ltT, zz_ltF, zz_eqF, zz_eqT, zz_m1, zz_m2, zz_m3, zz_m4, zz_m5, zz_m6, zz_ck, zz_bl, zz_b3, zz_b2, zz_shl, zz_bt0, zz_bt1, pk_div, Nat.zero_add, Nat.add_zero, if_true, if_false, reduceIte, Nat.mul_zero, zz_or0, zz_inT, zz_inF, r1', i3, at1, z0, z1]
      have y2 : fX12_clause_b128 f dM (nI 0) (nI (140 * s + j)) J0 LM = am_b2 (fX12_compare f dM J' LM) (fun I2 L2 => am_b2 (fX12_goOnAnd f dM I2 L2) (fun I3 L3 => am_b2 (fX12_goOnOr f dM I3 L3) (fun I4 L4 => fX12_clause_b184 f dM (nI (140 * s + j)) (nI 1) I4 L4))) := by
        simp (disch := omega) only [fX12_clause_b128, fX12_clause_b167, zz_lt, li_0, li_1, li_2, li_3, li_4, li_5, li_6, li_7, li_8, li_9, li_10, li_11, li_12, li_15, li_16, li_20, li_21, li_24, li_25, li_26, li_32, li_33, li_38, li_40, li_41, li_42, li_43, li_45, li_47, li_48, li_57, li_58, li_59, li_60, li_61, li_62, li_63, li_74, li_75, li_84, li_91, li_93, li_98, li_100, li_103, li_105, li_107, li_109, li_110, li_111, li_112, li_115, li_118, li_119, li_120, li_121, li_124, li_140, li_180, li_206, li_240, li_255, li_420, li_520, li_999, li_1000, li_1771, li_8240, li_9999, li_88200, li_1000000, li_2097151, li_31, nI_add, pk_mul, zz_sub, zz_an, nI_clamp, zz_leT, zz_leF, zz_ltT, zz_ltF, zz_eqF, zz_eqT, zz_m1, zz_m2, zz_m3, zz_m4, zz_m5, zz_m6, zz_ck, zz_bl, zz_b3, zz_b2, zz_shl, zz_bt0, zz_bt1, pk_div, Nat.zero_add, Nat.add_zero, if_true, if_false, reduceIte, Nat.mul_zero, zz_or0, zz_inT, zz_inF, r2', h4, lk, z2]
      rw [y1, y2]
      obtain ⟨I1, J1, v1, u | u⟩ := cmp_both hG f dC dM hf LC LM (by omega) (by omega) hsum I0 J0 I J' p0 c m s A p p w' (by omega) hm hs
      · obtain ⟨u1, u2, B1, p1, a1, w1⟩ := u
        have u1' : fX2_readComparison f dC (nI 0) I LC = some (nI 1, I1, LC) := u1
        obtain ⟨J5, c1, c2⟩ := b2_some u2
        subst c2
        obtain ⟨I2, J2, v2, x | x⟩ := hand I0 J0 I1 J5 p0 c m s B1 p1 a1 w1 (by omega) hm hs
        · obtain ⟨x1, x2, B2, p2, a2, w2⟩ := x
          have x1' : fX2_readMoreUnits f dC (nI 0) I1 LC = some (nI 1, I2, LC) := x1
          have x2' := fand_of x2
          obtain ⟨I3, J3, v3, o | o⟩ := hor I0 J0 I2 J2 p0 c m s B2 p2 a2 w2 (by omega) hm hs
          · obtain ⟨o1, o2, B3, p3, a3, w3⟩ := o
            have o1' : fX2_readMoreTruths f dC (nI 0) I2 LC = some (nI 1, I3, LC) := o1
            have o2' := for_of o2
            simp (disch := omega) only [u1', c1, x1', x2', o1', o2', zz_lt, li_0, li_1, li_2, li_3, li_4, li_5, li_6, li_7, li_8, li_9, li_10, li_11, li_12, li_15, li_16, li_20, li_21, li_24, li_25, li_26, li_32, li_33, li_38, li_40, li_41, li_42, li_43, li_45, li_47, li_48, li_57, li_58, li_59, li_60, li_61, li_62, li_63, li_74, li_75, li_84, li_91, li_93, li_98, li_100, li_103, li_105, li_107, li_109, li_110, li_111, li_112, li_115, li_118, li_119, li_120, li_121, li_124, li_140, li_180, li_206, li_240, li_255, li_420, li_520, li_999, li_1000, li_1771, li_8240, li_9999, li_88200, li_1000000, li_2097151, li_31, nI_add, pk_mul, zz_sub, zz_an, nI_clamp, zz_leT, zz_leF, zz_ltT, zz_ltF, zz_eqF, zz_eqT, zz_m1, zz_m2, zz_m3, zz_m4, zz_m5, zz_m6, zz_ck, zz_bl, zz_b3, zz_b2, zz_shl, zz_bt0, zz_bt1, pk_div, Nat.zero_add, Nat.add_zero, if_true, if_false, reduceIte, Nat.mul_zero, zz_or0, zz_inT, zz_inF]
            exact ans_both hG f dC dM hf LC LM hsum w3 h6 h5 hs hj hc hm hpp
          · obtain ⟨o1, o2, o3⟩ := o
            have o1' : fX2_readMoreTruths f dC (nI 0) I2 LC = some (nI 0, I3, LC) := o1
            have o2' := for_of o2
            simp (disch := omega) only [u1', c1, x1', x2', o1', o2', zz_lt, li_0, li_1, li_2, li_3, li_4, li_5, li_6, li_7, li_8, li_9, li_10, li_11, li_12, li_15, li_16, li_20, li_21, li_24, li_25, li_26, li_32, li_33, li_38, li_40, li_41, li_42, li_43, li_45, li_47, li_48, li_57, li_58, li_59, li_60, li_61, li_62, li_63, li_74, li_75, li_84, li_91, li_93, li_98, li_100, li_103, li_105, li_107, li_109, li_110, li_111, li_112, li_115, li_118, li_119, li_120, li_121, li_124, li_140, li_180, li_206, li_240, li_255, li_420, li_520, li_999, li_1000, li_1771, li_8240, li_9999, li_88200, li_1000000, li_2097151, li_31, nI_add, pk_mul, zz_sub, zz_an, nI_clamp, zz_leT, zz_leF, zz_ltT, zz_ltF, zz_eqF, zz_eqT, zz_m1, zz_m2, zz_m3, zz_m4, zz_m5, zz_m6, zz_ck, zz_bl, zz_b3, zz_b2, zz_shl, zz_bt0, zz_bt1, pk_div, Nat.zero_add, Nat.add_zero, if_true, if_false, reduceIte, Nat.mul_zero, zz_or0, zz_inT, zz_inF]
            exact err_both f dC dM LC LM (nI 1) 1 (by omega) o3 h5 hs hj
        · obtain ⟨x1, x2, x3⟩ := x
          have x1' : fX2_readMoreUnits f dC (nI 0) I1 LC = some (nI 0, I2, LC) := x1
          have x2' := fand_of x2
          have o2' : fX12_goOnOr f dM J2 LM = some (J2, LM) := by
            obtain ⟨e, q1, q2, q3⟩ := x3
            exact hst3 J2 s m _ e q2
          simp (disch := omega) only [u1', c1, x1', x2', o2', zz_lt, li_0, li_1, li_2, li_3, li_4, li_5, li_6, li_7, li_8, li_9, li_10, li_11, li_12, li_15, li_16, li_20, li_21, li_24, li_25, li_26, li_32, li_33, li_38, li_40, li_41, li_42, li_43, li_45, li_47, li_48, li_57, li_58, li_59, li_60, li_61, li_62, li_63, li_74, li_75, li_84, li_91, li_93, li_98, li_100, li_103, li_105, li_107, li_109, li_110, li_111, li_112, li_115, li_118, li_119, li_120, li_121, li_124, li_140, li_180, li_206, li_240, li_255, li_420, li_520, li_999, li_1000, li_1771, li_8240, li_9999, li_88200, li_1000000, li_2097151, li_31, nI_add, pk_mul, zz_sub, zz_an, nI_clamp, zz_leT, zz_leF, zz_ltT, zz_ltF, zz_eqF, zz_eqT, zz_m1, zz_m2, zz_m3, zz_m4, zz_m5, zz_m6, zz_ck, zz_bl, zz_b3, zz_b2, zz_shl, zz_bt0, zz_bt1, pk_div, Nat.zero_add, Nat.add_zero, if_true, if_false, reduceIte, Nat.mul_zero, zz_or0, zz_inT, zz_inF]
          exact err_both f dC dM LC LM (nI 1) 1 (by omega) x3 h5 hs hj
      · obtain ⟨u1, u2, u3⟩ := u
        have u1' : fX2_readComparison f dC (nI 0) I LC = some (nI 0, I1, LC) := u1
        obtain ⟨J5, c1, c2⟩ := b2_some u2
        subst c2
        have x2' : fX12_goOnAnd f dM J5 LM = some (J5, LM) := by
          obtain ⟨e, q1, q2, q3⟩ := u3
          exact hst2 J5 s m _ e q2
        have o2' : fX12_goOnOr f dM J5 LM = some (J5, LM) := by
          obtain ⟨e, q1, q2, q3⟩ := u3
          exact hst3 J5 s m _ e q2
        simp (disch := omega) only [u1', c1, x2', o2', zz_lt, li_0, li_1, li_2, li_3, li_4, li_5, li_6, li_7, li_8, li_9, li_10, li_11, li_12, li_15, li_16, li_20, li_21, li_24, li_25, li_26, li_32, li_33, li_38, li_40, li_41, li_42, li_43, li_45, li_47, li_48, li_57, li_58, li_59, li_60, li_61, li_62, li_63, li_74, li_75, li_84, li_91, li_93, li_98, li_100, li_103, li_105, li_107, li_109, li_110, li_111, li_112, li_115, li_118, li_119, li_120, li_121, li_124, li_140, li_180, li_206, li_240, li_255, li_420, li_520, li_999, li_1000, li_1771, li_8240, li_9999, li_88200, li_1000000, li_2097151, li_31, nI_add, pk_mul, zz_sub, zz_an, nI_clamp, zz_leT, zz_leF, zz_ltT, zz_ltF, zz_eqF, zz_eqT, zz_m1, zz_m2, zz_m3, zz_m4, zz_m5, zz_m6, zz_ck, zz_bl, zz_b3, zz_b2, zz_shl, zz_bt0, zz_bt1, pk_div, Nat.zero_add, Nat.add_zero, if_true, if_false, reduceIte, Nat.mul_zero, zz_or0, zz_inT, zz_inF]
        exact err_both f dC dM LC LM (nI 1) 1 (by omega) u3 h5 hs hj
    · have y1 : fX2_readClause_b49 f dC (nI 0) I0 LC = fX2_readClause_b125 f dC (nI 0) (nI 1) I LC := by
        simp (disch := omega) only [fX2_readClause_b49, fX2_readClause_b67, zz_lt, li_0, li_1, li_2, li_3, li_4, li_5, li_6, li_7, li_8, li_9, li_10, li_11, li_12, li_15, li_16, li_20, li_21, li_24, li_25, li_26, li_32, li_33, li_38, li_40, li_41, li_42, li_43, li_45, li_47, li_48, li_57, li_58, li_59, li_60, li_61, li_62, li_63, li_74, li_75, li_84, li_91, li_93, li_98, li_100, li_103, li_105, li_107, li_109, li_110, li_111, li_112, li_115, li_118, li_119, li_120, li_121, li_124, li_140, li_180, li_206, li_240, li_255, li_420, li_520, li_999, li_1000, li_1771, li_8240, li_9999, li_88200, li_1000000, li_2097151, li_31, nI_add, pk_mul, zz_sub, zz_an, nI_clamp, zz_leT, zz_leF, zz_ltT, zz_ltF, zz_eqF, zz_eqT, zz_m1, zz_m2, zz_m3, zz_m4, zz_m5, zz_m6, zz_ck, zz_bl, zz_b3, zz_b2, zz_shl, zz_bt0, zz_bt1, pk_div, Nat.zero_add, Nat.add_zero, if_true, if_false, reduceIte, Nat.mul_zero, zz_or0, zz_inT, zz_inF, r1', i3, at1, z1]
      have y2 : fX12_clause_b128 f dM (nI 0) (nI (140 * s + j)) J0 LM = fX12_clause_b184 f dM (nI (140 * s + j)) (nI 0) J' LM := by
        simp (disch := omega) only [fX12_clause_b128, fX12_clause_b166, fX12_clause_b167, zz_lt, li_0, li_1, li_2, li_3, li_4, li_5, li_6, li_7, li_8, li_9, li_10, li_11, li_12, li_15, li_16, li_20, li_21, li_24, li_25, li_26, li_32, li_33, li_38, li_40, li_41, li_42, li_43, li_45, li_47, li_48, li_57, li_58, li_59, li_60, li_61, li_62, li_63, li_74, li_75, li_84, li_91, li_93, li_98, li_100, li_103, li_105, li_107, li_109, li_110, li_111, li_112, li_115, li_118, li_119, li_120, li_121, li_124, li_140, li_180, li_206, li_240, li_255, li_420, li_520, li_999, li_1000, li_1771, li_8240, li_9999, li_88200, li_1000000, li_2097151, li_31, nI_add, pk_mul, zz_sub, zz_an, nI_clamp, zz_leT, zz_leF, zz_ltT, zz_ltF, zz_eqF, zz_eqT, zz_m1, zz_m2, zz_m3, zz_m4, zz_m5, zz_m6, zz_ck, zz_bl, zz_b3, zz_b2, zz_shl, zz_bt0, zz_bt1, pk_div, Nat.zero_add, Nat.add_zero, if_true, if_false, reduceIte, Nat.mul_zero, zz_or0, zz_inT, zz_inF, r2', h4, lk, z2]
      rw [y1, y2]
      exact pln_both hG f dC dM LC LM w' h6 h5 hs hj hc hpp
  · obtain ⟨r1, r2, r3⟩ := r
    have r1' : fX2_readSum f dC (nI 0) I0 LC = some (nI 0, I, LC) := r1
    have r2' := fsum_of r2
    have n4 : (J 0 4 = -nI 1) = False := by
      obtain ⟨e, q1, q2, q3⟩ := r3
      exact mf_n1 q2
    have y1 : fX2_readClause_b49 f dC (nI 0) I0 LC = fX2_readClause_b125 f dC (nI 0) (nI 0) I LC := by
      simp (disch := omega) only [fX2_readClause_b49, fX2_readClause_b67, zz_lt, li_0, li_1, li_2, li_3, li_4, li_5, li_6, li_7, li_8, li_9, li_10, li_11, li_12, li_15, li_16, li_20, li_21, li_24, li_25, li_26, li_32, li_33, li_38, li_40, li_41, li_42, li_43, li_45, li_47, li_48, li_57, li_58, li_59, li_60, li_61, li_62, li_63, li_74, li_75, li_84, li_91, li_93, li_98, li_100, li_103, li_105, li_107, li_109, li_110, li_111, li_112, li_115, li_118, li_119, li_120, li_121, li_124, li_140, li_180, li_206, li_240, li_255, li_420, li_520, li_999, li_1000, li_1771, li_8240, li_9999, li_88200, li_1000000, li_2097151, li_31, nI_add, pk_mul, zz_sub, zz_an, nI_clamp, zz_leT, zz_leF, zz_ltT, zz_ltF, zz_eqF, zz_eqT, zz_m1, zz_m2, zz_m3, zz_m4, zz_m5, zz_m6, zz_ck, zz_bl, zz_b3, zz_b2, zz_shl, zz_bt0, zz_bt1, pk_div, Nat.zero_add, Nat.add_zero, if_true, if_false, reduceIte, Nat.mul_zero, zz_or0, zz_inT, zz_inF, r1']
    have y2 : fX12_clause_b128 f dM (nI 0) (nI (140 * s + j)) J0 LM = fX12_clause_b184 f dM (nI (140 * s + j)) (nI 0) J LM := by
      simp (disch := omega) only [fX12_clause_b128, fX12_clause_b166, fX12_clause_b167, zz_lt, li_0, li_1, li_2, li_3, li_4, li_5, li_6, li_7, li_8, li_9, li_10, li_11, li_12, li_15, li_16, li_20, li_21, li_24, li_25, li_26, li_32, li_33, li_38, li_40, li_41, li_42, li_43, li_45, li_47, li_48, li_57, li_58, li_59, li_60, li_61, li_62, li_63, li_74, li_75, li_84, li_91, li_93, li_98, li_100, li_103, li_105, li_107, li_109, li_110, li_111, li_112, li_115, li_118, li_119, li_120, li_121, li_124, li_140, li_180, li_206, li_240, li_255, li_420, li_520, li_999, li_1000, li_1771, li_8240, li_9999, li_88200, li_1000000, li_2097151, li_31, nI_add, pk_mul, zz_sub, zz_an, nI_clamp, zz_leT, zz_leF, zz_ltT, zz_ltF, zz_eqF, zz_eqT, zz_m1, zz_m2, zz_m3, zz_m4, zz_m5, zz_m6, zz_ck, zz_bl, zz_b3, zz_b2, zz_shl, zz_bt0, zz_bt1, pk_div, Nat.zero_add, Nat.add_zero, if_true, if_false, reduceIte, Nat.mul_zero, zz_or0, zz_inT, zz_inF, r2', n4]
    rw [y1, y2]
    exact err_both f dC dM LC LM (nI 0) 0 (by omega) r3 h5 hs hj
theorem b71_err (f d : Nat) (L : am_L) {E e : Nat} (q : Int32) (h : MF J s m E e) : ∃ J', fX12_clause_b71 f d q J L = some (J', L) ∧ MF J' s m E e ∧ FK s m j J J' := by
  have h' := mf_0 h (Or.inl rfl) (J 0 3 + nI 1)
  have n4 := mf_n1 h'
  refine ⟨am_up J 0 3 (J 0 3 + nI 1), ?_, h', FK_FM j (FM_0 s m J (Or.inl rfl) _)⟩
  simp (disch := omega) only [fX12_clause_b71, zz_lt, li_0, li_1, li_2, li_3, li_4, li_5, li_6, li_7, li_8, li_9, li_10, li_11, li_12, li_15, li_16, li_20, li_21, li_24, li_25, li_26, li_32, li_33, li_38, li_40, li_41, li_42, li_43, li_45, li_47, li_48, li_57, li_58, li_59, li_60, li_61, li_62, li_63, li_74, li_75, li_84, li_91, li_93, li_98, li_100, li_103, li_105, li_107, li_109, li_110, li_111, li_112, li_115, li_118, li_119, li_120, li_121, li_124, li_140, li_180, li_206, li_240, li_255, li_420, li_520, li_999, li_1000, li_1771, li_8240, li_9999, li_88200, li_1000000, li_2097151, li_31, nI_add, pk_mul, zz_sub, zz_an, nI_clamp, zz_leT, zz_leF, zz_ltT, zz_ltF, zz_eqF, zz_eqT, zz_m1, zz_m2, zz_m3, zz_m4, zz_m5, zz_m6, zz_ck, zz_bl, zz_b3, zz_b2, zz_shl, zz_bt0, zz_bt1, pk_div, Nat.zero_add, Nat.add_zero, if_true, if_false, reduceIte, Nat.mul_zero, zz_or0, zz_inT, zz_inF, n4]
theorem b40_err (f d : Nat) (L : am_L) {E e : Nat} (q : Int32) (h : MF J s m E e) : ∃ J', fX12_clause_b40 f d q J L = some (J', L) ∧ MF J' s m E e ∧ FK s m j J J' := by
  have h' := mf_0 h (Or.inl rfl) (J 0 3 + nI 1)
  have n4 := mf_n1 h'
  obtain ⟨J', x1, x2, x3⟩ := b71_err (j := j) f d L q h'
  refine ⟨J', ?_, x2, FK_tr (FK_FM j (FM_0 s m J (Or.inl rfl) _)) x3 (Nat.le_refl _) (Nat.le_refl _)⟩
  simp (disch := omega) only [fX12_clause_b40, zz_lt, li_0, li_1, li_2, li_3, li_4, li_5, li_6, li_7, li_8, li_9, li_10, li_11, li_12, li_15, li_16, li_20, li_21, li_24, li_25, li_26, li_32, li_33, li_38, li_40, li_41, li_42, li_43, li_45, li_47, li_48, li_57, li_58, li_59, li_60, li_61, li_62, li_63, li_74, li_75, li_84, li_91, li_93, li_98, li_100, li_103, li_105, li_107, li_109, li_110, li_111, li_112, li_115, li_118, li_119, li_120, li_121, li_124, li_140, li_180, li_206, li_240, li_255, li_420, li_520, li_999, li_1000, li_1771, li_8240, li_9999, li_88200, li_1000000, li_2097151, li_31, nI_add, pk_mul, zz_sub, zz_an, nI_clamp, zz_leT, zz_leF, zz_ltT, zz_ltF, zz_eqF, zz_eqT, zz_m1, zz_m2, zz_m3, zz_m4, zz_m5, zz_m6, zz_ck, zz_bl, zz_b3, zz_b2, zz_shl, zz_bt0, zz_bt1, pk_div, Nat.zero_add, Nat.add_zero, if_true, if_false, reduceIte, Nat.mul_zero, zz_or0, zz_inT, zz_inF, n4, x1]
theorem cls_both (hG : GT n t) (f dC dM : Nat) (hf : 300 < f) (hC : 40 ≤ dC) (hM : 40 ≤ dM) (LC LM : am_L) {p a : Nat} (hI : PC n t I p c) (hJ : PM n t J a (-nI 1) 0 s m) (hn : nb n t a = p) (ha : a ≤ n) (h5 : J 5 s = nI j) (hs : s ≤ 4) (hj : j < 140) (hc : c ≤ p) (hm : m ≤ p) : RES n t LC LM s j (p + 1) c m I J (fX2_readClause f dC I LC) (fX12_clause f dM J LM) := by
  have g := hG.1
  have pn : p ≤ n := by rw [← hn]; exact nb_le ha
  have tk := lc_takes hG f dC hf LC hI pn (ch := 121) (by omega)
  have lk := lm_look hG f dM hf LM hJ ha
  rw [hn] at lk
  have h14 := hJ.2.2.2.2.1
  have h4 := hJ.2.2.1
  have P1 := PM_3 hJ p
  have f1 : FK s m j J (am_up J 0 3 (nI p)) := FK_FM j (FM_0 s m J (Or.inl rfl) _)
  by_cases q : bx n t p = 122
  · rw [if_pos q] at tk
    have zb : zn (bx n t p) = nI 121 := by rw [q]; rfl
    have pln : p < n := bx_in (t := t) (by omega)
    rw [zb] at lk
    obtain ⟨p2, hp2⟩ : ∃ p2, p2 = nb n t (p + 1) := ⟨_, rfl⟩
    have nbp := nb_ge n t (p + 1)
    have p2n : p2 ≤ n := by rw [hp2]; exact nb_le (by omega)
    rw [← hp2] at tk nbp
    have I1 := PC_go hI p2
    have fI1 := FC_27 c I 3 (nI p2)
    have tk2 := lc_takes hG f dC hf LC I1 p2n (ch := 58) (by omega)
    have l3 := P1.2.1
    have P2 := PM_3 P1 (p + 1)
    have f2 : FK s m j J (am_up (am_up J 0 3 (nI p)) 0 3 (nI (p + 1))) := FK_tr f1 (FK_FM j (FM_0 s m _ (Or.inl rfl) _)) (Nat.le_refl _) (Nat.le_refl _)
    have h42 := P2.2.2.1
    have lk2 := lm_look hG f dM hf LM P2 (by omega)
    rw [← hp2] at lk2
    have P3 := PM_3 P2 p2
    have f3 : FK s m j J (am_up (am_up (am_up J 0 3 (nI p)) 0 3 (nI (p + 1))) 0 3 (nI p2)) := FK_tr f2 (FK_FM j (FM_0 s m _ (Or.inl rfl) _)) (Nat.le_refl _) (Nat.le_refl _)
    by_cases q2 : bx n t p2 = 59
    · rw [if_pos q2] at tk2
      have zb2 : zn (bx n t p2) = nI 58 := by rw [q2]; rfl
      have pln2 : p2 < n := bx_in (t := t) (by omega)
      rw [zb2] at lk2
      obtain ⟨p3, hp3⟩ : ∃ p3, p3 = nb n t (p2 + 1) := ⟨_, rfl⟩
      have nbp2 := nb_ge n t (p2 + 1)
      have p3n : p3 ≤ n := by rw [hp3]; exact nb_le (by omega)
      have n33 : nb n t p3 = p3 := by rw [hp3]; exact nb_id (by omega)
      rw [← hp3] at tk2 nbp2
      have I2 := PC_go I1 p3
      have fI2 := FC_tr fI1 (FC_27 c (am_up I 27 3 (nI p2)) 3 (nI p3)) (Nat.le_refl _)
      have i3 := I2.2.1
      have at1 := lc_at hG f dC LC I2 p3n
      have l32 := P3.2.1
      have P4 := PM_3 P3 (p2 + 1)
      have h43 := P4.2.2.1
      have w14 := P4.2.2.2.2.1
      have w4 := P4.2.2.2.2.2
      have P5 := PM_up (x := 140 * s + j) (q := 6) P4 (nI m) (by omega)
      have lk3 := lm_look hG f dM hf LM P5 (by omega)
      rw [← hp3] at lk3
      have P6 := PM_3 P5 p3
      have lk4 := lm_look hG f dM hf LM P6 p3n
      rw [n33, up_up _ 0 3 (nI p3) (nI p3)] at lk4
      have f6 := FK_tr f3 (FK_tr (FK_FM j (FM_0 s m _ (Or.inl rfl) (nI (p2 + 1)))) (FK_tr (FK_up s m j _ (k := 6) (nI m) (by omega) (Nat.le_refl (140 * s + j))) (FK_FM j (FM_0 s m _ (Or.inl rfl) (nI p3))) (Nat.le_refl _) (Nat.le_refl _)) (Nat.le_refl _) (Nat.le_refl _)) (Nat.le_refl _) (Nat.le_refl _)
      have k6 : (am_up (am_up (am_up (am_up (am_up (am_up J 0 3 (nI p)) 0 3 (nI (p + 1))) 0 3 (nI p2)) 0 3 (nI (p2 + 1))) 6 (140 * s + j) (nI m)) 0 3 (nI p3)) 6 (140 * s + j) = nI m := by rw [am_up_ne (by omega), up_s rfl]
      have k5 : (am_up (am_up (am_up (am_up (am_up (am_up J 0 3 (nI p)) 0 3 (nI (p + 1))) 0 3 (nI p2)) 0 3 (nI (p2 + 1))) 6 (140 * s + j) (nI m)) 0 3 (nI p3)) 5 s = nI j := by rw [up5 (by omega), up5 (by omega), up5 (by omega), up5 (by omega), up5 (by omega), up5 (by omega)]; exact h5
      have bc := fun (q : Unit) => body_c (pp := p + 1) hG f dC dM hf hC hM LC LM I2 P6 n33 p3n k6 k5 hs hj (by omega) (by omega) (by omega)
      have bs := fun (q : Unit) => body_s (pp := p + 1) hG f dC dM hf hC hM LC LM I2 P6 n33 p3n k6 k5 hs hj (by omega) (by omega) (by omega)
      by_cases a33 : zn (bx n t p3) = nI 33
      · rw [a33] at at1 lk3 lk4
        have stc : fX2_readClause f dC I LC = fX2_readClause_b49 f dC (nI 1) (am_up (am_up I 27 3 (nI p2)) 27 3 (nI p3)) LC := by
          simp (disch := omega) only [fX2_readClause, fX2_readClause_b44, zz_lt, li_0, li_1, li_2, li_3, li_4, li_5, li_6, li_7, li_8, li_9, li_10, li_11, li_12, li_15, li_16, li_20, li_21, li_24, li_25, li_26, li_32, li_33, li_38, li_40, li_41, li_42, li_43, li_45, li_47, li_48, li_57, li_58, li_59, li_60, li_61, li_62, li_63, li_74, li_75, li_84, li_91, li_93, li_98, li_100, li_103, li_105, li_107, li_109, li_110, li_111, li_112, li_115, li_118, li_119, li_120, li_121, li_124, li_140, li_180, li_206, li_240, li_255, li_420, li_520, li_999, li_1000, li_1771, li_8240, li_9999, li_88200, li_1000000, li_2097151, li_31, nI_add, pk_mul, zz_sub, zz_an, nI_clamp, zz_leT, zz_leF, zz_ltT, zz_ltF, zz_eqF, zz_eqT, zz_m1, zz_m2, zz_m3, zz_m4, zz_m5, zz_m6, zz_ck, zz_bl, zz_b3, zz_b2, zz_shl, zz_bt0, zz_bt1, pk_div, Nat.zero_add, Nat.add_zero, if_true, if_false, reduceIte, Nat.mul_zero, zz_or0, zz_inT, zz_inF, tk, tk2, i3, at1]
        have stm : fX12_clause f dM J LM = fX12_clause_b128 f dM (nI 1) (nI (140 * s + j)) (am_up (am_up (am_up (am_up (am_up (am_up J 0 3 (nI p)) 0 3 (nI (p + 1))) 0 3 (nI p2)) 0 3 (nI (p2 + 1))) 6 (140 * s + j) (nI m)) 0 3 (nI p3)) LM := by
          simp (disch := omega) only [fX12_clause, fX12_clause_b40, fX12_clause_b71, fX12_clause_b123, zz_lt, li_0, li_1, li_2, li_3, li_4, li_5, li_6, li_7, li_8, li_9, li_10, li_11, li_12, li_15, li_16, li_20, li_21, li_24, li_25, li_26, li_32, li_33, li_38, li_40, li_41, li_42, li_43, li_45, li_47, li_48, li_57, li_58, li_59, li_60, li_61, li_62, li_63, li_74, li_75, li_84, li_91, li_93, li_98, li_100, li_103, li_105, li_107, li_109, li_110, li_111, li_112, li_115, li_118, li_119, li_120, li_121, li_124, li_140, li_180, li_206, li_240, li_255, li_420, li_520, li_999, li_1000, li_1771, li_8240, li_9999, li_88200, li_1000000, li_2097151, li_31, nI_add, pk_mul, zz_sub, zz_an, nI_clamp, zz_leT, zz_leF, zz_ltT, zz_ltF, zz_eqF, zz_eqT, zz_m1, zz_m2, zz_m3, zz_m4, zz_m5, zz_m6, zz_ck, zz_bl, zz_b3, zz_b2, zz_shl, zz_bt0, zz_bt1, pk_div, Nat.zero_add, Nat.add_zero, if_true, if_false, reduceIte, Nat.mul_zero, zz_or0, zz_inT, zz_inF, h14, h5, h4, lk, l3, h42, lk2, l32, h43, w14, w4, lk3, lk4]
        rw [stc, stm]
        exact RES_b fI2 f6 (bc ())
      · by_cases a40 : zn (bx n t p3) = nI 40
        · rw [a40] at at1 lk3 lk4
          have stc : fX2_readClause f dC I LC = fX2_readClause_b49 f dC (nI 1) (am_up (am_up I 27 3 (nI p2)) 27 3 (nI p3)) LC := by
            simp (disch := omega) only [fX2_readClause, fX2_readClause_b44, zz_lt, li_0, li_1, li_2, li_3, li_4, li_5, li_6, li_7, li_8, li_9, li_10, li_11, li_12, li_15, li_16, li_20, li_21, li_24, li_25, li_26, li_32, li_33, li_38, li_40, li_41, li_42, li_43, li_45, li_47, li_48, li_57, li_58, li_59, li_60, li_61, li_62, li_63, li_74, li_75, li_84, li_91, li_93, li_98, li_100, li_103, li_105, li_107, li_109, li_110, li_111, li_112, li_115, li_118, li_119, li_120, li_121, li_124, li_140, li_180, li_206, li_240, li_255, li_420, li_520, li_999, li_1000, li_1771, li_8240, li_9999, li_88200, li_1000000, li_2097151, li_31, nI_add, pk_mul, zz_sub, zz_an, nI_clamp, zz_leT, zz_leF, zz_ltT, zz_ltF, zz_eqF, zz_eqT, zz_m1, zz_m2, zz_m3, zz_m4, zz_m5, zz_m6, zz_ck, zz_bl, zz_b3, zz_b2, zz_shl, zz_bt0, zz_bt1, pk_div, Nat.zero_add, Nat.add_zero, if_true, if_false, reduceIte, Nat.mul_zero, zz_or0, zz_inT, zz_inF, tk, tk2, i3, at1]
          have stm : fX12_clause f dM J LM = fX12_clause_b128 f dM (nI 1) (nI (140 * s + j)) (am_up (am_up (am_up (am_up (am_up (am_up J 0 3 (nI p)) 0 3 (nI (p + 1))) 0 3 (nI p2)) 0 3 (nI (p2 + 1))) 6 (140 * s + j) (nI m)) 0 3 (nI p3)) LM := by
            simp (disch := omega) only [fX12_clause, fX12_clause_b40, fX12_clause_b71, fX12_clause_b123, zz_lt, li_0, li_1, li_2, li_3, li_4, li_5, li_6, li_7, li_8, li_9, li_10, li_11, li_12, li_15, li_16, li_20, li_21, li_24, li_25, li_26, li_32, li_33, li_38, li_40, li_41, li_42, li_43, li_45, li_47, li_48, li_57, li_58, li_59, li_60, li_61, li_62, li_63, li_74, li_75, li_84, li_91, li_93, li_98, li_100, li_103, li_105, li_107, li_109, li_110, li_111, li_112, li_115, li_118, li_119, li_120, li_121, li_124, li_140, li_180, li_206, li_240, li_255, li_420, li_520, li_999, li_1000, li_1771, li_8240, li_9999, li_88200, li_1000000, li_2097151, li_31, nI_add, pk_mul, zz_sub, zz_an, nI_clamp, zz_leT, zz_leF, zz_ltT, zz_ltF, zz_eqF, zz_eqT, zz_m1, zz_m2, zz_m3, zz_m4, zz_m5, zz_m6, zz_ck, zz_bl, zz_b3, zz_b2, zz_shl, zz_bt0, zz_bt1, pk_div, Nat.zero_add, Nat.add_zero, if_true, if_false, reduceIte, Nat.mul_zero, zz_or0, zz_inT, zz_inF, h14, h5, h4, lk, l3, h42, lk2, l32, h43, w14, w4, lk3, lk4]
          rw [stc, stm]
          exact RES_b fI2 f6 (bc ())
        · have n33' : (zn (bx n t p3) = nI 33) = False := eq_false a33
          have n40' : (zn (bx n t p3) = nI 40) = False := eq_false a40
          have stc : fX2_readClause f dC I LC = fX2_readClause_b49 f dC (nI 0) (am_up (am_up I 27 3 (nI p2)) 27 3 (nI p3)) LC := by
            simp (disch := omega) only [fX2_readClause, fX2_readClause_b44, zz_lt, li_0, li_1, li_2, li_3, li_4, li_5, li_6, li_7, li_8, li_9, li_10, li_11, li_12, li_15, li_16, li_20, li_21, li_24, li_25, li_26, li_32, li_33, li_38, li_40, li_41, li_42, li_43, li_45, li_47, li_48, li_57, li_58, li_59, li_60, li_61, li_62, li_63, li_74, li_75, li_84, li_91, li_93, li_98, li_100, li_103, li_105, li_107, li_109, li_110, li_111, li_112, li_115, li_118, li_119, li_120, li_121, li_124, li_140, li_180, li_206, li_240, li_255, li_420, li_520, li_999, li_1000, li_1771, li_8240, li_9999, li_88200, li_1000000, li_2097151, li_31, nI_add, pk_mul, zz_sub, zz_an, nI_clamp, zz_leT, zz_leF, zz_ltT, zz_ltF, zz_eqF, zz_eqT, zz_m1, zz_m2, zz_m3, zz_m4, zz_m5, zz_m6, zz_ck, zz_bl, zz_b3, zz_b2, zz_shl, zz_bt0, zz_bt1, pk_div, Nat.zero_add, Nat.add_zero, if_true, if_false, reduceIte, Nat.mul_zero, zz_or0, zz_inT, zz_inF, tk, tk2, i3, at1, n33', n40']
          have stm : fX12_clause f dM J LM = fX12_clause_b128 f dM (nI 0) (nI (140 * s + j)) (am_up (am_up (am_up (am_up (am_up (am_up J 0 3 (nI p)) 0 3 (nI (p + 1))) 0 3 (nI p2)) 0 3 (nI (p2 + 1))) 6 (140 * s + j) (nI m)) 0 3 (nI p3)) LM := by
            simp (disch := omega) only [fX12_clause, fX12_clause_b40, fX12_clause_b71, fX12_clause_b123, zz_lt, li_0, li_1, li_2, li_3, li_4, li_5, li_6, li_7, li_8, li_9, li_10, li_11, li_12, li_15, li_16, li_20, li_21, li_24, li_25, li_26, li_32, li_33, li_38, li_40, li_41, li_42, li_43, li_45, li_47, li_48, li_57, li_58, li_59, li_60, li_61, li_62, li_63, li_74, li_75, li_84, li_91, li_93, li_98, li_100, li_103, li_105, li_107, li_109, li_110, li_111, li_112, li_115, li_118, li_119, li_120, li_121, li_124, li_140, li_180, li_206, li_240, li_255, li_420, li_520, li_999, li_1000, li_1771, li_8240, li_9999, li_88200, li_1000000, li_2097151, li_31, nI_add, pk_mul, zz_sub, zz_an, nI_clamp, zz_leT, zz_leF, zz_ltT, zz_ltF, zz_eqF, zz_eqT, zz_m1, zz_m2, zz_m3, zz_m4, zz_m5, zz_m6, zz_ck, zz_bl, zz_b3, zz_b2, zz_shl, zz_bt0, zz_bt1, pk_div, Nat.zero_add, Nat.add_zero, if_true, if_false, reduceIte, Nat.mul_zero, zz_or0, zz_inT, zz_inF, h14, h5, h4, lk, l3, h42, lk2, l32, h43, w14, w4, lk3, lk4, n33', n40']
          rw [stc, stm]
          exact RES_b fI2 f6 (bs ())
    · rw [if_neg q2] at tk2
      have n2 : (zn (bx n t p2) = nI 58) = False := (zn_ch (bx_le hG p2) (by omega)).trans (eq_false q2)
      have bad := lm_bad f dM LM P3 rfl
      have mf := mf_bad (E := 240) P3 (by omega) (by omega)
      obtain ⟨J', x1, x2, x3⟩ := b71_err (j := j) f dM LM (nI (140 * s + j)) mf
      refine ⟨am_up I 27 3 (nI p2), J', Or.inr ⟨?_, ?_, p2, by omega, I1.2.1, x2.1, fun k a b => am_up_ne a, FK_tr f3 (FK_tr (FK_FM j (FM_0 s m _ (Or.inr (Or.inl rfl)) _)) x3 (Nat.le_refl _) (Nat.le_refl _)) (Nat.le_refl _) (Nat.le_refl _)⟩⟩
      · simp (disch := omega) only [fX2_readClause, zz_lt, li_0, li_1, li_2, li_3, li_4, li_5, li_6, li_7, li_8, li_9, li_10, li_11, li_12, li_15, li_16, li_20, li_21, li_24, li_25, li_26, li_32, li_33, li_38, li_40, li_41, li_42, li_43, li_45, li_47, li_48, li_57, li_58, li_59, li_60, li_61, li_62, li_63, li_74, li_75, li_84, li_91, li_93, li_98, li_100, li_103, li_105, li_107, li_109, li_110, li_111, li_112, li_115, li_118, li_119, li_120, li_121, li_124, li_140, li_180, li_206, li_240, li_255, li_420, li_520, li_999, li_1000, li_1771, li_8240, li_9999, li_88200, li_1000000, li_2097151, li_31, nI_add, pk_mul, zz_sub, zz_an, nI_clamp, zz_leT, zz_leF, zz_ltT, zz_ltF, zz_eqF, zz_eqT, zz_m1, zz_m2, zz_m3, zz_m4, zz_m5, zz_m6, zz_ck, zz_bl, zz_b3, zz_b2, zz_shl, zz_bt0, zz_bt1, pk_div, Nat.zero_add, Nat.add_zero, if_true, if_false, reduceIte, Nat.mul_zero, zz_or0, zz_inT, zz_inF, tk, tk2]
      · simp (disch := omega) only [fX12_clause, fX12_clause_b40, zz_lt, li_0, li_1, li_2, li_3, li_4, li_5, li_6, li_7, li_8, li_9, li_10, li_11, li_12, li_15, li_16, li_20, li_21, li_24, li_25, li_26, li_32, li_33, li_38, li_40, li_41, li_42, li_43, li_45, li_47, li_48, li_57, li_58, li_59, li_60, li_61, li_62, li_63, li_74, li_75, li_84, li_91, li_93, li_98, li_100, li_103, li_105, li_107, li_109, li_110, li_111, li_112, li_115, li_118, li_119, li_120, li_121, li_124, li_140, li_180, li_206, li_240, li_255, li_420, li_520, li_999, li_1000, li_1771, li_8240, li_9999, li_88200, li_1000000, li_2097151, li_31, nI_add, pk_mul, zz_sub, zz_an, nI_clamp, zz_leT, zz_leF, zz_ltT, zz_ltF, zz_eqF, zz_eqT, zz_m1, zz_m2, zz_m3, zz_m4, zz_m5, zz_m6, zz_ck, zz_bl, zz_b3, zz_b2, zz_shl, zz_bt0, zz_bt1, pk_div, Nat.zero_add, Nat.add_zero, if_true, if_false, reduceIte, Nat.mul_zero, zz_or0, zz_inT, zz_inF, h14, h5, h4, lk, l3, h42, lk2, n2, bad, x1]
  · rw [if_neg q] at tk
    have n1 : (zn (bx n t p) = nI 121) = False := (zn_ch (bx_le hG p) (by omega)).trans (eq_false q)
    have bad := lm_bad f dM LM P1 rfl
    have mf := mf_bad (E := 240) P1 (by omega) (by omega)
    obtain ⟨J', x1, x2, x3⟩ := b40_err (j := j) f dM LM (nI (140 * s + j)) mf
    refine ⟨I, J', Or.inr ⟨?_, ?_, p, by omega, hI.2.1, x2.1, fun k a b => rfl, FK_tr f1 (FK_tr (FK_FM j (FM_0 s m _ (Or.inr (Or.inl rfl)) _)) x3 (Nat.le_refl _) (Nat.le_refl _)) (Nat.le_refl _) (Nat.le_refl _)⟩⟩
    · simp (disch := omega) only [fX2_readClause, zz_lt, li_0, li_1, li_2, li_3, li_4, li_5, li_6, li_7, li_8, li_9, li_10, li_11, li_12, li_15, li_16, li_20, li_21, li_24, li_25, li_26, li_32, li_33, li_38, li_40, li_41, li_42, li_43, li_45, li_47, li_48, li_57, li_58, li_59, li_60, li_61, li_62, li_63, li_74, li_75, li_84, li_91, li_93, li_98, li_100, li_103, li_105, li_107, li_109, li_110, li_111, li_112, li_115, li_118, li_119, li_120, li_121, li_124, li_140, li_180, li_206, li_240, li_255, li_420, li_520, li_999, li_1000, li_1771, li_8240, li_9999, li_88200, li_1000000, li_2097151, li_31, nI_add, pk_mul, zz_sub, zz_an, nI_clamp, zz_leT, zz_leF, zz_ltT, zz_ltF, zz_eqF, zz_eqT, zz_m1, zz_m2, zz_m3, zz_m4, zz_m5, zz_m6, zz_ck, zz_bl, zz_b3, zz_b2, zz_shl, zz_bt0, zz_bt1, pk_div, Nat.zero_add, Nat.add_zero, if_true, if_false, reduceIte, Nat.mul_zero, zz_or0, zz_inT, zz_inF, tk]
    · simp (disch := omega) only [fX12_clause, zz_lt, li_0, li_1, li_2, li_3, li_4, li_5, li_6, li_7, li_8, li_9, li_10, li_11, li_12, li_15, li_16, li_20, li_21, li_24, li_25, li_26, li_32, li_33, li_38, li_40, li_41, li_42, li_43, li_45, li_47, li_48, li_57, li_58, li_59, li_60, li_61, li_62, li_63, li_74, li_75, li_84, li_91, li_93, li_98, li_100, li_103, li_105, li_107, li_109, li_110, li_111, li_112, li_115, li_118, li_119, li_120, li_121, li_124, li_140, li_180, li_206, li_240, li_255, li_420, li_520, li_999, li_1000, li_1771, li_8240, li_9999, li_88200, li_1000000, li_2097151, li_31, nI_add, pk_mul, zz_sub, zz_an, nI_clamp, zz_leT, zz_leF, zz_ltT, zz_ltF, zz_eqF, zz_eqT, zz_m1, zz_m2, zz_m3, zz_m4, zz_m5, zz_m6, zz_ck, zz_bl, zz_b3, zz_b2, zz_shl, zz_bt0, zz_bt1, pk_div, Nat.zero_add, Nat.add_zero, if_true, if_false, reduceIte, Nat.mul_zero, zz_or0, zz_inT, zz_inF, h14, h5, h4, lk, n1, bad, x1]
end
