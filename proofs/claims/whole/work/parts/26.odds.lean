/-! PURE: letter; odds, hurry. -/
def gu (g : Nat → Nat → Nat) (a j v : Nat) : Nat → Nat → Nat := fun p q => if p = a ∧ q = j then v else g p q
/-- letters: x 0 0 how many, x 1 their steps, x 2 how many men -/
def GX (x : Nat → Nat → Nat) : Prop := x 0 0 ≤ 10 ∧ ∀ j, j < x 0 0 → x 1 j ≤ 20 ∧ x 2 j ≤ 3
def CX (I : am_I) (x : Nat → Nat → Nat) : Prop := I 60 5 = nI (x 0 0) ∧ (∀ j, j < x 0 0 → I 61 j = nI (x 1 j)) ∧ (∀ j, j < x 0 0 → I 62 j = nI (x 2 j))
def MX (I : am_I) (x : Nat → Nat → Nat) : Prop := I 0 39 = nI (x 0 0) ∧ (∀ j, j < x 0 0 → I 21 j = nI (x 1 j)) ∧ (∀ j, j < x 0 0 → I 22 j = nI (x 2 j))
def sLC (k j : Nat) : Bool := match k with
  | 60 => match j with | 5 => true | _ => false
  | 61 => true | 62 => true | _ => false
def sLM (k j : Nat) : Bool := match k with
  | 0 => match j with | 39 => true | _ => false
  | 21 => true | 22 => true | _ => false
theorem CX_keep {I I' : am_I} {x : Nat → Nat → Nat} (h : CX I x) (a : am_ag scrC I I') : CX I' x := by
  unfold CX at *
  rw [a 60 5 rfl, funext (fun j => a 61 j rfl), funext (fun j => a 62 j rfl)]
  exact h
theorem MX_keep {I I' : am_I} {x : Nat → Nat → Nat} (h : MX I x) (a : am_ag scrM I I') : MX I' x := by
  unfold MX at *
  rw [a 0 39 rfl, funext (fun j => a 21 j rfl), funext (fun j => a 22 j rfl)]
  exact h
theorem op_letter {x : Nat → Nat → Nat} {IC IM : am_I} (hx : GX x) (hc : CX IC x) (hm : MX IM x) (LC LM : am_L) (e0 e1 : Int32) : ∃ (r : Int32) (IC' IM' : am_I) (x' : Nat → Nat → Nat), fX11_letter am_N 1900 e0 e1 IC LC = some (r, IC', LC) ∧ fX12_letter am_N 1900 e0 e1 IM LM = some (r, IM', LM) ∧ GX x' ∧ CX IC' x' ∧ MX IM' x' ∧ am_ag sLC IC IC' ∧ am_ag sLM IM IM' := by
  obtain ⟨x1, x2⟩ := id hx
  obtain ⟨c1, c2, c3⟩ := id hc
  obtain ⟨m1, m2, m3⟩ := id hm
  rcases ix_of e0 (n := 21) (by omega) with he | ⟨b, hb, rfl⟩
  · have q := pm_in0 am_N 1900 IM LM he (by omega)
    rw [show nI 21 - nI 1 = nI 20 from rfl] at q
    refine ⟨-nI 1, IC, IM, x, ?_, by simp (disch := omega) only [fX12_letter, q, am_lt, li_0, li_1, li_2, li_3, li_4, li_5, li_6, li_7, li_8, li_9, li_10, li_11, li_12, li_15, li_16, li_20, li_21, li_24, li_25, li_26, li_32, li_33, li_38, li_40, li_41, li_42, li_43, li_45, li_47, li_48, li_57, li_58, li_59, li_60, li_61, li_62, li_63, li_74, li_75, li_84, li_91, li_93, li_98, li_100, li_103, li_105, li_107, li_109, li_110, li_111, li_112, li_115, li_118, li_119, li_120, li_121, li_124, li_140, li_180, li_206, li_240, li_255, li_420, li_520, li_999, li_1000, li_1771, li_8240, li_9999, li_88200, li_1000000, li_2097151, li_31, nI_add, pk_mul, zz_sub, zz_an, nI_clamp, zz_leT, zz_leF, zz_ltT, zz_ltF, zz_eqF, zz_eqT, zz_m1, zz_m2, zz_m3, zz_m4, zz_m5, zz_m6, zz_ck, zz_bl, zz_b3, zz_b2, zz_shl, zz_bt0, zz_bt1, pk_div, Nat.zero_add, Nat.add_zero, if_true, if_false, reduceIte, Nat.mul_zero, zz_or0, zz_inT, zz_inF], hx, hc, hm, ag_rf, ag_rf⟩
    by_cases z : e0 < nI 0
    · simp (disch := omega) only [fX11_letter, fX4_add, am_lt, li_0, li_1, li_2, li_3, li_4, li_5, li_6, li_7, li_8, li_9, li_10, li_11, li_12, li_15, li_16, li_20, li_21, li_24, li_25, li_26, li_32, li_33, li_38, li_40, li_41, li_42, li_43, li_45, li_47, li_48, li_57, li_58, li_59, li_60, li_61, li_62, li_63, li_74, li_75, li_84, li_91, li_93, li_98, li_100, li_103, li_105, li_107, li_109, li_110, li_111, li_112, li_115, li_118, li_119, li_120, li_121, li_124, li_140, li_180, li_206, li_240, li_255, li_420, li_520, li_999, li_1000, li_1771, li_8240, li_9999, li_88200, li_1000000, li_2097151, li_31, nI_add, pk_mul, zz_sub, zz_an, nI_clamp, zz_leT, zz_leF, zz_ltT, zz_ltF, zz_eqF, zz_eqT, zz_m1, zz_m2, zz_m3, zz_m4, zz_m5, zz_m6, zz_ck, zz_bl, zz_b3, zz_b2, zz_shl, zz_bt0, zz_bt1, pk_div, Nat.zero_add, Nat.add_zero, if_true, if_false, reduceIte, Nat.mul_zero, zz_or0, zz_inT, zz_inF, z]
    · have z2 : nI 20 < e0 := by
        have := Int32.le_iff_toInt_le.mp (he.resolve_left z)
        refine Int32.lt_iff_toInt_lt.mpr ?_
        rw [nI_toInt (by omega)] at this ⊢
        omega
      simp (disch := omega) only [fX11_letter, fX4_add, am_lt, li_0, li_1, li_2, li_3, li_4, li_5, li_6, li_7, li_8, li_9, li_10, li_11, li_12, li_15, li_16, li_20, li_21, li_24, li_25, li_26, li_32, li_33, li_38, li_40, li_41, li_42, li_43, li_45, li_47, li_48, li_57, li_58, li_59, li_60, li_61, li_62, li_63, li_74, li_75, li_84, li_91, li_93, li_98, li_100, li_103, li_105, li_107, li_109, li_110, li_111, li_112, li_115, li_118, li_119, li_120, li_121, li_124, li_140, li_180, li_206, li_240, li_255, li_420, li_520, li_999, li_1000, li_1771, li_8240, li_9999, li_88200, li_1000000, li_2097151, li_31, nI_add, pk_mul, zz_sub, zz_an, nI_clamp, zz_leT, zz_leF, zz_ltT, zz_ltF, zz_eqF, zz_eqT, zz_m1, zz_m2, zz_m3, zz_m4, zz_m5, zz_m6, zz_ck, zz_bl, zz_b3, zz_b2, zz_shl, zz_bt0, zz_bt1, pk_div, Nat.zero_add, Nat.add_zero, if_true, if_false, reduceIte, Nat.mul_zero, zz_or0, zz_inT, zz_inF, z, z2]
  · rcases ix_of e1 (n := 4) (by omega) with he | ⟨c, hc4, rfl⟩
    · have q := pm_in0 am_N 1900 IM LM he (by omega)
      rw [show nI 4 - nI 1 = nI 3 from rfl] at q
      refine ⟨-nI 1, IC, IM, x, ?_, by simp (disch := omega) only [fX12_letter, q, am_lt, li_0, li_1, li_2, li_3, li_4, li_5, li_6, li_7, li_8, li_9, li_10, li_11, li_12, li_15, li_16, li_20, li_21, li_24, li_25, li_26, li_32, li_33, li_38, li_40, li_41, li_42, li_43, li_45, li_47, li_48, li_57, li_58, li_59, li_60, li_61, li_62, li_63, li_74, li_75, li_84, li_91, li_93, li_98, li_100, li_103, li_105, li_107, li_109, li_110, li_111, li_112, li_115, li_118, li_119, li_120, li_121, li_124, li_140, li_180, li_206, li_240, li_255, li_420, li_520, li_999, li_1000, li_1771, li_8240, li_9999, li_88200, li_1000000, li_2097151, li_31, nI_add, pk_mul, zz_sub, zz_an, nI_clamp, zz_leT, zz_leF, zz_ltT, zz_ltF, zz_eqF, zz_eqT, zz_m1, zz_m2, zz_m3, zz_m4, zz_m5, zz_m6, zz_ck, zz_bl, zz_b3, zz_b2, zz_shl, zz_bt0, zz_bt1, pk_div, Nat.zero_add, Nat.add_zero, if_true, if_false, reduceIte, Nat.mul_zero, zz_or0, zz_inT, zz_inF], hx, hc, hm, ag_rf, ag_rf⟩
      by_cases z : e1 < nI 0
      · simp (disch := omega) only [fX11_letter, fX4_add, am_lt, li_0, li_1, li_2, li_3, li_4, li_5, li_6, li_7, li_8, li_9, li_10, li_11, li_12, li_15, li_16, li_20, li_21, li_24, li_25, li_26, li_32, li_33, li_38, li_40, li_41, li_42, li_43, li_45, li_47, li_48, li_57, li_58, li_59, li_60, li_61, li_62, li_63, li_74, li_75, li_84, li_91, li_93, li_98, li_100, li_103, li_105, li_107, li_109, li_110, li_111, li_112, li_115, li_118, li_119, li_120, li_121, li_124, li_140, li_180, li_206, li_240, li_255, li_420, li_520, li_999, li_1000, li_1771, li_8240, li_9999, li_88200, li_1000000, li_2097151, li_31, nI_add, pk_mul, zz_sub, zz_an, nI_clamp, zz_leT, zz_leF, zz_ltT, zz_ltF, zz_eqF, zz_eqT, zz_m1, zz_m2, zz_m3, zz_m4, zz_m5, zz_m6, zz_ck, zz_bl, zz_b3, zz_b2, zz_shl, zz_bt0, zz_bt1, pk_div, Nat.zero_add, Nat.add_zero, if_true, if_false, reduceIte, Nat.mul_zero, zz_or0, zz_inT, zz_inF, z]
      · have z2 : nI 3 < e1 := by
          have := Int32.le_iff_toInt_le.mp (he.resolve_left z)
          refine Int32.lt_iff_toInt_lt.mpr ?_
          rw [nI_toInt (by omega)] at this ⊢
          omega
        simp (disch := omega) only [fX11_letter, fX4_add, am_lt, li_0, li_1, li_2, li_3, li_4, li_5, li_6, li_7, li_8, li_9, li_10, li_11, li_12, li_15, li_16, li_20, li_21, li_24, li_25, li_26, li_32, li_33, li_38, li_40, li_41, li_42, li_43, li_45, li_47, li_48, li_57, li_58, li_59, li_60, li_61, li_62, li_63, li_74, li_75, li_84, li_91, li_93, li_98, li_100, li_103, li_105, li_107, li_109, li_110, li_111, li_112, li_115, li_118, li_119, li_120, li_121, li_124, li_140, li_180, li_206, li_240, li_255, li_420, li_520, li_999, li_1000, li_1771, li_8240, li_9999, li_88200, li_1000000, li_2097151, li_31, nI_add, pk_mul, zz_sub, zz_an, nI_clamp, zz_leT, zz_leF, zz_ltT, zz_ltF, zz_eqF, zz_eqT, zz_m1, zz_m2, zz_m3, zz_m4, zz_m5, zz_m6, zz_ck, zz_bl, zz_b3, zz_b2, zz_shl, zz_bt0, zz_bt1, pk_div, Nat.zero_add, Nat.add_zero, if_true, if_false, reduceIte, Nat.mul_zero, zz_or0, zz_inT, zz_inF, z, z2]
    · by_cases f : x 0 0 = 10
      · exact ⟨-nI 1, IC, IM, x, by simp (disch := omega) only [fX11_letter, fX4_add, am_lt, li_0, li_1, li_2, li_3, li_4, li_5, li_6, li_7, li_8, li_9, li_10, li_11, li_12, li_15, li_16, li_20, li_21, li_24, li_25, li_26, li_32, li_33, li_38, li_40, li_41, li_42, li_43, li_45, li_47, li_48, li_57, li_58, li_59, li_60, li_61, li_62, li_63, li_74, li_75, li_84, li_91, li_93, li_98, li_100, li_103, li_105, li_107, li_109, li_110, li_111, li_112, li_115, li_118, li_119, li_120, li_121, li_124, li_140, li_180, li_206, li_240, li_255, li_420, li_520, li_999, li_1000, li_1771, li_8240, li_9999, li_88200, li_1000000, li_2097151, li_31, nI_add, pk_mul, zz_sub, zz_an, nI_clamp, zz_leT, zz_leF, zz_ltT, zz_ltF, zz_eqF, zz_eqT, zz_m1, zz_m2, zz_m3, zz_m4, zz_m5, zz_m6, zz_ck, zz_bl, zz_b3, zz_b2, zz_shl, zz_bt0, zz_bt1, pk_div, Nat.zero_add, Nat.add_zero, if_true, if_false, reduceIte, Nat.mul_zero, zz_or0, zz_inT, zz_inF, c1], by simp (disch := omega) only [fX12_letter, am_lt, li_0, li_1, li_2, li_3, li_4, li_5, li_6, li_7, li_8, li_9, li_10, li_11, li_12, li_15, li_16, li_20, li_21, li_24, li_25, li_26, li_32, li_33, li_38, li_40, li_41, li_42, li_43, li_45, li_47, li_48, li_57, li_58, li_59, li_60, li_61, li_62, li_63, li_74, li_75, li_84, li_91, li_93, li_98, li_100, li_103, li_105, li_107, li_109, li_110, li_111, li_112, li_115, li_118, li_119, li_120, li_121, li_124, li_140, li_180, li_206, li_240, li_255, li_420, li_520, li_999, li_1000, li_1771, li_8240, li_9999, li_88200, li_1000000, li_2097151, li_31, nI_add, pk_mul, zz_sub, zz_an, nI_clamp, zz_leT, zz_leF, zz_ltT, zz_ltF, zz_eqF, zz_eqT, zz_m1, zz_m2, zz_m3, zz_m4, zz_m5, zz_m6, zz_ck, zz_bl, zz_b3, zz_b2, zz_shl, zz_bt0, zz_bt1, pk_div, Nat.zero_add, Nat.add_zero, if_true, if_false, reduceIte, Nat.mul_zero, zz_or0, zz_inT, zz_inF, m1], hx, hc, hm, ag_rf, ag_rf⟩
      · refine ⟨nI (x 0 0 + 1), am_up (am_up (am_up IC 61 (x 0 0) (nI b)) 62 (x 0 0) (nI c)) 60 5 (nI (x 0 0 + 1)), am_up (am_up (am_up IM 21 (x 0 0) (nI b)) 22 (x 0 0) (nI c)) 0 39 (nI (x 0 0 + 1)), gu (gu (gu x 1 (x 0 0) b) 2 (x 0 0) c) 0 0 (x 0 0 + 1), ?_, ?_, ?_, ?_, ?_, ?_, ?_⟩
        · simp (disch := omega) only [fX11_letter, fX4_add, am_lt, li_0, li_1, li_2, li_3, li_4, li_5, li_6, li_7, li_8, li_9, li_10, li_11, li_12, li_15, li_16, li_20, li_21, li_24, li_25, li_26, li_32, li_33, li_38, li_40, li_41, li_42, li_43, li_45, li_47, li_48, li_57, li_58, li_59, li_60, li_61, li_62, li_63, li_74, li_75, li_84, li_91, li_93, li_98, li_100, li_103, li_105, li_107, li_109, li_110, li_111, li_112, li_115, li_118, li_119, li_120, li_121, li_124, li_140, li_180, li_206, li_240, li_255, li_420, li_520, li_999, li_1000, li_1771, li_8240, li_9999, li_88200, li_1000000, li_2097151, li_31, nI_add, pk_mul, zz_sub, zz_an, nI_clamp, zz_leT, zz_leF, zz_ltT, zz_ltF, zz_eqF, zz_eqT, zz_m1, zz_m2, zz_m3, zz_m4, zz_m5, zz_m6, zz_ck, zz_bl, zz_b3, zz_b2, zz_shl, zz_bt0, zz_bt1, pk_div, Nat.zero_add, Nat.add_zero, if_true, if_false, reduceIte, Nat.mul_zero, zz_or0, zz_inT, zz_inF, c1, up_s, up_n, am_up_ne]
        · simp (disch := omega) only [fX12_letter, am_lt, li_0, li_1, li_2, li_3, li_4, li_5, li_6, li_7, li_8, li_9, li_10, li_11, li_12, li_15, li_16, li_20, li_21, li_24, li_25, li_26, li_32, li_33, li_38, li_40, li_41, li_42, li_43, li_45, li_47, li_48, li_57, li_58, li_59, li_60, li_61, li_62, li_63, li_74, li_75, li_84, li_91, li_93, li_98, li_100, li_103, li_105, li_107, li_109, li_110, li_111, li_112, li_115, li_118, li_119, li_120, li_121, li_124, li_140, li_180, li_206, li_240, li_255, li_420, li_520, li_999, li_1000, li_1771, li_8240, li_9999, li_88200, li_1000000, li_2097151, li_31, nI_add, pk_mul, zz_sub, zz_an, nI_clamp, zz_leT, zz_leF, zz_ltT, zz_ltF, zz_eqF, zz_eqT, zz_m1, zz_m2, zz_m3, zz_m4, zz_m5, zz_m6, zz_ck, zz_bl, zz_b3, zz_b2, zz_shl, zz_bt0, zz_bt1, pk_div, Nat.zero_add, Nat.add_zero, if_true, if_false, reduceIte, Nat.mul_zero, zz_or0, zz_inT, zz_inF, m1, up_s, up_n, am_up_ne]
        · refine ⟨by simp [gu]; omega, fun j hj => ?_⟩
          simp [gu] at hj
          by_cases q : j = x 0 0
          · simp [gu, q]; omega
          · have := x2 j (by omega)
            simp [gu, q]; omega
        · refine ⟨by simp [gu, am_up, upd], fun j hj => ?_, fun j hj => ?_⟩ <;> simp [gu] at hj
          · by_cases q : j = x 0 0
            · simp [gu, q, am_up, upd]
            · simp [gu, q, am_up, upd, c2 j (by omega)]
          · by_cases q : j = x 0 0
            · simp [gu, q, am_up, upd]
            · simp [gu, q, am_up, upd, c3 j (by omega)]
        · refine ⟨by simp [gu, am_up, upd], fun j hj => ?_, fun j hj => ?_⟩ <;> simp [gu] at hj
          · by_cases q : j = x 0 0
            · simp [gu, q, am_up, upd]
            · simp [gu, q, am_up, upd, m2 j (by omega)]
          · by_cases q : j = x 0 0
            · simp [gu, q, am_up, upd]
            · simp [gu, q, am_up, upd, m3 j (by omega)]
        · exact ag_up (ag_up (ag_up ag_rf rfl) rfl) rfl
        · exact ag_up (ag_up (ag_up ag_rf rfl) rfl) rfl
theorem ll_0 : (0 : Int64) = lN 0 := rfl
theorem ll_10 : (10 : Int64) = lN 10 := rfl
theorem ll_g : (1000000000 : Int64) = lN 1000000000 := rfl
theorem zl_eqF {a b : Nat} (h : a ≠ b ∧ a < 4611686018427387904 ∧ b < 4611686018427387904) : (lN a = lN b) = False := eq_false (fun e => h.1 ((pk_lEQ (by omega) (by omega)).mp e))
theorem zl_div {a b : Nat} (h : 0 < b ∧ a < 4611686018427387904 ∧ b < 4611686018427387904) : lN a / lN b = lN (a / b) := pk_lDiv (by omega) h.1 (by omega)
theorem uL_s {L : am_L} {t j i : Nat} {v : Int64} (h : i = j) : am_uL L t j v t i = v := by subst h; simp [am_uL, vp_updL]
theorem uL_n {L : am_L} {t j i : Nat} {v : Int64} (h : i ≠ j) : am_uL L t j v t i = L t i := by simp [am_uL, vp_updL, h]
def am_al (t : Nat) (L L' : am_L) : Prop := ∀ k, k ≠ t → L' k = L k
theorem al_rf {t : Nat} {L : am_L} : am_al t L L := fun _ _ => rfl
theorem al_up {t j : Nat} {v : Int64} {L L' : am_L} (h : am_al t L L') : am_al t L (am_uL L' t j v) := fun k hk => by rw [← h k hk]; exact am_uL_ne hk
theorem al_tr {t : Nat} {L L' L'' : am_L} (h : am_al t L L') (h2 : am_al t L' L'') : am_al t L L'' := fun k hk => (h2 k hk).trans (h k hk)
def un (p : Nat → Nat) (k v : Nat) : Nat → Nat := fun y => if y = k then v else p y
def sm (p : Nat → Nat) : Nat → Nat
  | 0 => 0
  | n + 1 => sm p n + p n
theorem sm_ext {p q : Nat → Nat} : ∀ n, (∀ k, k < n → p k = q k) → sm p n = sm q n
  | 0, _ => rfl
  | n + 1, h => by unfold sm; rw [sm_ext n (fun k hk => h k (by omega)), h n (by omega)]
theorem sm_un (p : Nat → Nat) (k v : Nat) : ∀ n, k < n → sm (un p k v) n + p k = sm p n + v
  | 0, h => by omega
  | n + 1, h => by
    unfold sm
    by_cases e : k = n
    · subst e
      rw [sm_ext k (q := p) (fun y hy => by unfold un; rw [if_neg (by omega)])]
      simp [un]
      omega
    · have := sm_un p k v n (by omega)
      have e2 : un p k v n = p n := by unfold un; rw [if_neg (by omega)]
      rw [e2]
      omega
theorem sm_ge (p : Nat → Nat) : ∀ n k, k < n → p k ≤ sm p n
  | 0, _, h => by omega
  | n + 1, k, h => by
    unfold sm
    by_cases e : k = n
    · subst e; omega
    · have := sm_ge p n k (by omega)
      omega
/-- what goes on a step: i tenths stay -/
def od_st (i : Nat) (p : Nat → Nat) (k : Nat) : Nat → Nat := un (un p (k - 1) (p (k - 1) + (p k - p k * i / 10))) k (p k * i / 10)
theorem od_sum {i k : Nat} (p : Nat → Nat) (hi : i ≤ 10) (h1 : 1 ≤ k) (h2 : k < 21) : sm (od_st i p k) 21 = sm p 21 := by
  have e1 := sm_un (un p (k - 1) (p (k - 1) + (p k - p k * i / 10))) k (p k * i / 10) 21 h2
  have e2 := sm_un p (k - 1) (p (k - 1) + (p k - p k * i / 10)) 21 (by omega)
  have e3 : un p (k - 1) (p (k - 1) + (p k - p k * i / 10)) k = p k := by unfold un; rw [if_neg (by omega)]
  have e4 : p k * i / 10 ≤ p k := by
    have : p k * i ≤ p k * 10 := Nat.mul_le_mul_left _ hi
    omega
  unfold od_st
  omega
def od_k (i : Nat) : Nat → Nat → (Nat → Nat) → (Nat → Nat)
  | 0, _, p => p
  | j + 1, k, p => od_k i j (k + 1) (od_st i p k)
def od_d (i : Nat) : Nat → (Nat → Nat) → (Nat → Nat)
  | 0, p => p
  | t + 1, p => od_d i t (od_k i 20 1 p)
theorem od_k_sum {i : Nat} (hi : i ≤ 10) : ∀ (j k : Nat) (p : Nat → Nat), k + j = 21 → 1 ≤ k → sm (od_k i j k p) 21 = sm p 21
  | 0, _, _, _, _ => rfl
  | j + 1, k, p, e, h => by
    unfold od_k
    rw [od_k_sum hi j (k + 1) _ (by omega) (by omega), od_sum p hi h (by omega)]
theorem od_d_sum {i : Nat} (hi : i ≤ 10) : ∀ (t : Nat) (p : Nat → Nat), sm (od_d i t p) 21 = sm p 21
  | 0, _ => rfl
  | t + 1, p => by
    unfold od_d
    rw [od_d_sum hi t, od_k_sum hi 20 1 p (by omega) (by omega)]
def od_0 (s : Nat) : Nat → Nat := fun k => if k = s then 1000000000 else 0
theorem od_0_sum : ∀ s, s ≤ 20 → sm (od_0 s) 21 = 1000000000 := by decide +kernel
def g_od (g : Nat → Nat → Nat) (m t : Nat) : Nat := od_d (g 6 m) t (od_0 (g 9 m)) 0
theorem g_od_le {g : Nat → Nat → Nat} (hg : GW g) {m : Nat} (h2 : m < g 0 0) (t : Nat) : g_od g m t ≤ 1000000000 := by
  have h := od_d_sum (i := g 6 m) (by have := hg.2.2.2.2.2.1 m h2; omega) t (od_0 (g 9 m))
  rw [od_0_sum _ (hg.2.2.2.2.2.2.2.2.1 m h2).1] at h
  rw [← h]
  exact sm_ge _ 21 0 (by omega)
def LPp (L : am_L) (t : Nat) (p : Nat → Nat) : Prop := ∀ k, k < 21 → L t k = lN (p k)
theorem LP_st {L : am_L} {t i k : Nat} {p : Nat → Nat} (h : LPp L t p) (h1 : 1 ≤ k) : LPp (am_uL (am_uL L t (k - 1) (lN (p (k - 1) + (p k - p k * i / 10)))) t k (lN (p k * i / 10))) t (od_st i p k) := by
  intro y hy
  unfold od_st un
  by_cases e1 : y = k
  · rw [uL_s e1, if_pos e1]
  · rw [uL_n e1, if_neg e1]
    by_cases e2 : y = k - 1
    · rw [uL_s e2, if_pos e2]
    · rw [uL_n e2, if_neg e2, h y hy]
theorem LP_st2 {L : am_L} {t i k : Nat} {p : Nat → Nat} (h : LPp L t p) (h1 : 1 ≤ k) : LPp (am_uL (am_uL L t k (lN (p k * i / 10))) t (k - 1) (lN (p (k - 1) + (p k - p k * i / 10)))) t (od_st i p k) := by
  intro y hy
  unfold od_st un
  by_cases e2 : y = k - 1
  · rw [uL_s e2, if_neg (by omega), if_pos e2]
  · rw [uL_n e2]
    by_cases e1 : y = k
    · rw [uL_s e1, if_pos e1]
    · rw [uL_n e1, if_neg e1, if_neg e2, h y hy]
theorem pc_odK {g : Nat → Nat → Nat} {I : am_I} (hg : GW g) (h : CS I g) (n d : Nat) {m t N : Nat} (h2 : m < g 0 0) (kk : Int32 → Int32 → Int32 → am_I → am_L → Option (Int32 × am_I × am_L)) : ∀ (j k F : Nat) (p : Nat → Nat) (L : am_L), k + j = 21 → j < F → 1 ≤ k → LPp L 65 p → sm p 21 = 1000000000 → ∃ L', fX11_partsAtHome_b53 n d kk F (nI m) (nI N) (nI t) (nI k) I L = kk (nI m) (nI N) (nI (t + 1)) I L' ∧ LPp L' 65 (od_k (g 6 m) j k p) ∧ am_al 65 L L'
  | _, _, 0, _, _, _, f, _, _, _ => by omega
  | 0, k, F + 1, p, L, e, f, k1, hL, hs => by
    have h0 := h; have hg2 := hg; obtain ⟨hm, hgv, hp, ha, hd, t0, t1, t2, t3, t4, t5, o0, o1, r0, r1, hde, hra, hs0, hs1⟩ := h; obtain ⟨gm, gg, gp, ga, gd, gmn, gor, gdi, grd, gsd⟩ := hg
    exact ⟨L, by simp (disch := omega) only [fX11_partsAtHome_b53, fX11_partsAtHome_b53w, am_lt, li_0, li_1, li_2, li_3, li_4, li_5, li_6, li_7, li_8, li_9, li_10, li_11, li_12, li_15, li_16, li_20, li_21, li_24, li_25, li_26, li_32, li_33, li_38, li_40, li_41, li_42, li_43, li_45, li_47, li_48, li_57, li_58, li_59, li_60, li_61, li_62, li_63, li_74, li_75, li_84, li_91, li_93, li_98, li_100, li_103, li_105, li_107, li_109, li_110, li_111, li_112, li_115, li_118, li_119, li_120, li_121, li_124, li_140, li_180, li_206, li_240, li_255, li_420, li_520, li_999, li_1000, li_1771, li_8240, li_9999, li_88200, li_1000000, li_2097151, li_31, nI_add, pk_mul, zz_sub, zz_an, nI_clamp, zz_leT, zz_leF, zz_ltT, zz_ltF, zz_eqF, zz_eqT, zz_m1, zz_m2, zz_m3, zz_m4, zz_m5, zz_m6, zz_ck, zz_bl, zz_b3, zz_b2, zz_shl, zz_bt0, zz_bt1, pk_div, Nat.zero_add, Nat.add_zero, if_true, if_false, reduceIte, Nat.mul_zero, zz_or0, zz_inT, zz_inF], hL, al_rf⟩
  | j + 1, k, F + 1, p, L, e, f, k1, hL, hs => by
    have h0 := h; have hg2 := hg; obtain ⟨hm, hgv, hp, ha, hd, t0, t1, t2, t3, t4, t5, o0, o1, r0, r1, hde, hra, hs0, hs1⟩ := h; obtain ⟨gm, gg, gp, ga, gd, gmn, gor, gdi, grd, gsd⟩ := hg
    have b1 := gmn m h2
    have b2 := sm_ge p 21 k (by omega)
    have b3 := sm_ge p 21 (k - 1) (by omega)
    have b4 : p k * g 6 m ≤ p k * 9 := Nat.mul_le_mul_left _ (by omega)
    have b5 : p k * g 6 m / 10 ≤ p k := by omega
    have hL' : ∀ k, k < 21 → L 65 k = lN (p k) := hL
    have e1 : fX11_partsAtHome_b53 n d kk (F + 1) (nI m) (nI N) (nI t) (nI k) I L = fX11_partsAtHome_b53 n d kk F (nI m) (nI N) (nI t) (nI (k + 1)) I (am_uL (am_uL L 65 (k - 1) (lN (p (k - 1) + (p k - p k * g 6 m / 10)))) 65 k (lN (p k * g 6 m / 10))) := by
      simp (disch := omega) only [fX11_partsAtHome_b53, fX11_partsAtHome_b53w, am_lt, li_0, li_1, li_2, li_3, li_4, li_5, li_6, li_7, li_8, li_9, li_10, li_11, li_12, li_15, li_16, li_20, li_21, li_24, li_25, li_26, li_32, li_33, li_38, li_40, li_41, li_42, li_43, li_45, li_47, li_48, li_57, li_58, li_59, li_60, li_61, li_62, li_63, li_74, li_75, li_84, li_91, li_93, li_98, li_100, li_103, li_105, li_107, li_109, li_110, li_111, li_112, li_115, li_118, li_119, li_120, li_121, li_124, li_140, li_180, li_206, li_240, li_255, li_420, li_520, li_999, li_1000, li_1771, li_8240, li_9999, li_88200, li_1000000, li_2097151, li_31, nI_add, pk_mul, zz_sub, zz_an, nI_clamp, zz_leT, zz_leF, zz_ltT, zz_ltF, zz_eqF, zz_eqT, zz_m1, zz_m2, zz_m3, zz_m4, zz_m5, zz_m6, zz_ck, zz_bl, zz_b3, zz_b2, zz_shl, zz_bt0, zz_bt1, pk_div, Nat.zero_add, Nat.add_zero, if_true, if_false, reduceIte, Nat.mul_zero, zz_or0, zz_inT, zz_inF, hm, hgv, hp, ha, hd, t0, t1, t2, t3, t4, t5, o0, o1, r0, r1, ll_0, ll_10, ll_g, zl_eqF, zl_div, lN_mul, lN_add, lN_sub, nI_l, uL_s, uL_n, lN_i, hL']
      
    obtain ⟨L', h3, h4, h5⟩ := pc_odK hg2 h0 n d h2 kk j (k + 1) F (od_st (g 6 m) p k) (am_uL (am_uL L 65 (k - 1) (lN (p (k - 1) + (p k - p k * g 6 m / 10)))) 65 k (lN (p k * g 6 m / 10))) (by omega) (by omega) (by omega) (LP_st hL k1) (by rw [od_sum p (by omega) k1 (by omega), hs])
    exact ⟨L', by rw [e1, h3], h4, al_tr (al_up (al_up al_rf)) h5⟩
theorem pc_odD {g : Nat → Nat → Nat} {I : am_I} (hg : GW g) (h : CS I g) (n d : Nat) {m N : Nat} (h2 : m < g 0 0) (hN : N ≤ 40) (hn : 100 < n) : ∀ (j t F : Nat) (p : Nat → Nat) (L : am_L), t + j = N → j < F → LPp L 65 p → sm p 21 = 1000000000 → ∃ L', fX11_partsAtHome_b45 n d F (nI m) (nI N) (nI t) I L = some (nI (od_d (g 6 m) j p 0), I, L') ∧ am_al 65 L L'
  | _, _, 0, _, _, _, f, _, _ => by omega
  | 0, t, F + 1, p, L, e, f, hL, hs => by
    have hL' : ∀ k, k < 21 → L 65 k = lN (p k) := hL
    exact ⟨L, by simp (disch := omega) only [fX11_partsAtHome_b45, fX11_partsAtHome_b45w, am_lt, li_0, li_1, li_2, li_3, li_4, li_5, li_6, li_7, li_8, li_9, li_10, li_11, li_12, li_15, li_16, li_20, li_21, li_24, li_25, li_26, li_32, li_33, li_38, li_40, li_41, li_42, li_43, li_45, li_47, li_48, li_57, li_58, li_59, li_60, li_61, li_62, li_63, li_74, li_75, li_84, li_91, li_93, li_98, li_100, li_103, li_105, li_107, li_109, li_110, li_111, li_112, li_115, li_118, li_119, li_120, li_121, li_124, li_140, li_180, li_206, li_240, li_255, li_420, li_520, li_999, li_1000, li_1771, li_8240, li_9999, li_88200, li_1000000, li_2097151, li_31, nI_add, pk_mul, zz_sub, zz_an, nI_clamp, zz_leT, zz_leF, zz_ltT, zz_ltF, zz_eqF, zz_eqT, zz_m1, zz_m2, zz_m3, zz_m4, zz_m5, zz_m6, zz_ck, zz_bl, zz_b3, zz_b2, zz_shl, zz_bt0, zz_bt1, pk_div, Nat.zero_add, Nat.add_zero, if_true, if_false, reduceIte, Nat.mul_zero, zz_or0, zz_inT, zz_inF, hL', lN_i, od_d], al_rf⟩
  | j + 1, t, F + 1, p, L, e, f, hL, hs => by
    have b1 := hg.2.2.2.2.2.1 m h2
    obtain ⟨L1, h3, h4, h5⟩ := pc_odK hg h n d (N := N) (t := t) h2 (fX11_partsAtHome_b45 n d F) 20 1 n p L (by omega) (by omega) (by omega) hL hs
    obtain ⟨L2, h6, h7⟩ := pc_odD hg h n d h2 hN hn j (t + 1) F (od_k (g 6 m) 20 1 p) L1 (by omega) (by omega) h4 (by rw [od_k_sum (by omega) 20 1 p (by omega) (by omega), hs])
    have e1 : fX11_partsAtHome_b45 n d (F + 1) (nI m) (nI N) (nI t) I L = fX11_partsAtHome_b53 n d (fX11_partsAtHome_b45 n d F) n (nI m) (nI N) (nI t) (nI 1) I L := by
      simp (disch := omega) only [fX11_partsAtHome_b45, fX11_partsAtHome_b45w, am_lt, li_0, li_1, li_2, li_3, li_4, li_5, li_6, li_7, li_8, li_9, li_10, li_11, li_12, li_15, li_16, li_20, li_21, li_24, li_25, li_26, li_32, li_33, li_38, li_40, li_41, li_42, li_43, li_45, li_47, li_48, li_57, li_58, li_59, li_60, li_61, li_62, li_63, li_74, li_75, li_84, li_91, li_93, li_98, li_100, li_103, li_105, li_107, li_109, li_110, li_111, li_112, li_115, li_118, li_119, li_120, li_121, li_124, li_140, li_180, li_206, li_240, li_255, li_420, li_520, li_999, li_1000, li_1771, li_8240, li_9999, li_88200, li_1000000, li_2097151, li_31, nI_add, pk_mul, zz_sub, zz_an, nI_clamp, zz_leT, zz_leF, zz_ltT, zz_ltF, zz_eqF, zz_eqT, zz_m1, zz_m2, zz_m3, zz_m4, zz_m5, zz_m6, zz_ck, zz_bl, zz_b3, zz_b2, zz_shl, zz_bt0, zz_bt1, pk_div, Nat.zero_add, Nat.add_zero, if_true, if_false, reduceIte, Nat.mul_zero, zz_or0, zz_inT, zz_inF]
    exact ⟨L2, by rw [e1, h3, h6]; rfl, al_tr h5 h7⟩
theorem pc_od0 {g : Nat → Nat → Nat} {I : am_I} (hg : GW g) (h : CS I g) (n d : Nat) {m N : Nat} (h2 : m < g 0 0) : ∀ (j k F : Nat) (L : am_L), k + j = 21 → j < F → (∀ y, y < k → L 65 y = lN (od_0 (g 9 m) y)) → ∃ L', fX11_partsAtHome_b2 n d F (nI m) (nI N) (nI k) I L = fX11_partsAtHome_b45 n d n (nI m) (nI N) (nI 0) I L' ∧ LPp L' 65 (od_0 (g 9 m)) ∧ am_al 65 L L'
  | _, _, 0, _, _, f, _ => by omega
  | 0, k, F + 1, L, e, f, hL => by
    exact ⟨L, by simp (disch := omega) only [fX11_partsAtHome_b2, fX11_partsAtHome_b2w, am_lt, li_0, li_1, li_2, li_3, li_4, li_5, li_6, li_7, li_8, li_9, li_10, li_11, li_12, li_15, li_16, li_20, li_21, li_24, li_25, li_26, li_32, li_33, li_38, li_40, li_41, li_42, li_43, li_45, li_47, li_48, li_57, li_58, li_59, li_60, li_61, li_62, li_63, li_74, li_75, li_84, li_91, li_93, li_98, li_100, li_103, li_105, li_107, li_109, li_110, li_111, li_112, li_115, li_118, li_119, li_120, li_121, li_124, li_140, li_180, li_206, li_240, li_255, li_420, li_520, li_999, li_1000, li_1771, li_8240, li_9999, li_88200, li_1000000, li_2097151, li_31, nI_add, pk_mul, zz_sub, zz_an, nI_clamp, zz_leT, zz_leF, zz_ltT, zz_ltF, zz_eqF, zz_eqT, zz_m1, zz_m2, zz_m3, zz_m4, zz_m5, zz_m6, zz_ck, zz_bl, zz_b3, zz_b2, zz_shl, zz_bt0, zz_bt1, pk_div, Nat.zero_add, Nat.add_zero, if_true, if_false, reduceIte, Nat.mul_zero, zz_or0, zz_inT, zz_inF], fun y hy => hL y (by omega), al_rf⟩
  | j + 1, k, F + 1, L, e, f, hL => by
    have h0 := h; have hg2 := hg; obtain ⟨hm, hgv, hp, ha, hd, t0, t1, t2, t3, t4, t5, o0, o1, r0, r1, hde, hra, hs0, hs1⟩ := h; obtain ⟨gm, gg, gp, ga, gd, gmn, gor, gdi, grd, gsd⟩ := hg
    have b1 := grd m h2
    obtain ⟨L', h3, h4, h5⟩ := pc_od0 hg2 h0 n d (N := N) h2 j (k + 1) F (am_uL L 65 k (lN (od_0 (g 9 m) k))) (by omega) (by omega) (fun y hy => by
      by_cases q : y = k
      · rw [uL_s q, q]
      · rw [uL_n q]; exact hL y (by omega))
    refine ⟨L', ?_, h4, al_tr (al_up al_rf) h5⟩
    rw [← h3]
    unfold od_0
    by_cases c : k = g 9 m <;> simp (disch := omega) only [fX11_partsAtHome_b2, fX11_partsAtHome_b2w, fX11_partsAtHome_b36, am_lt, li_0, li_1, li_2, li_3, li_4, li_5, li_6, li_7, li_8, li_9, li_10, li_11, li_12, li_15, li_16, li_20, li_21, li_24, li_25, li_26, li_32, li_33, li_38, li_40, li_41, li_42, li_43, li_45, li_47, li_48, li_57, li_58, li_59, li_60, li_61, li_62, li_63, li_74, li_75, li_84, li_91, li_93, li_98, li_100, li_103, li_105, li_107, li_109, li_110, li_111, li_112, li_115, li_118, li_119, li_120, li_121, li_124, li_140, li_180, li_206, li_240, li_255, li_420, li_520, li_999, li_1000, li_1771, li_8240, li_9999, li_88200, li_1000000, li_2097151, li_31, nI_add, pk_mul, zz_sub, zz_an, nI_clamp, zz_leT, zz_leF, zz_ltT, zz_ltF, zz_eqF, zz_eqT, zz_m1, zz_m2, zz_m3, zz_m4, zz_m5, zz_m6, zz_ck, zz_bl, zz_b3, zz_b2, zz_shl, zz_bt0, zz_bt1, pk_div, Nat.zero_add, Nat.add_zero, if_true, if_false, reduceIte, Nat.mul_zero, zz_or0, zz_inT, zz_inF, hm, hgv, hp, ha, hd, t0, t1, t2, t3, t4, t5, o0, o1, r0, r1, ll_0, ll_g, c, if_true, if_false]
theorem pc_odds {g : Nat → Nat → Nat} {I : am_I} (hg : GW g) (h : CS I g) (n d : Nat) (L : am_L) {m N : Nat} (h2 : m < g 0 0) (hN : N ≤ 40) (hn : 100 < n) : ∃ L', fX11_partsAtHome n d (nI m) (nI N) I L = some (nI (g_od g m N), I, L') ∧ am_al 65 L L' := by
  have b1 := hg.2.2.2.2.2.2.2.2.1 m h2
  obtain ⟨L1, h3, h4, h5⟩ := pc_od0 hg h n d (N := N) h2 21 0 n L (by omega) (by omega) (fun y hy => by omega)
  obtain ⟨L2, h6, h7⟩ := pc_odD hg h n d h2 hN hn N 0 n (od_0 (g 9 m)) L1 (by omega) (by omega) h4 (od_0_sum _ b1.1)
  exact ⟨L2, h3.trans h6, al_tr h5 h7⟩
theorem pm_odK {g : Nat → Nat → Nat} {I : am_I} (hg : GW g) (h : MS I g) (n d : Nat) {m t N : Nat} (h2 : m < g 0 0) (kk : Int32 → Int32 → Int32 → am_I → am_L → Option (Int32 × am_I × am_L)) : ∀ (j k F : Nat) (p : Nat → Nat) (L : am_L), k + j = 21 → j < F → 1 ≤ k → LPp L 24 p → sm p 21 = 1000000000 → ∃ L', fX12_oddsOf_b49 n d kk F (nI m) (nI N) (nI t) (nI k) I L = kk (nI m) (nI N) (nI (t + 1)) I L' ∧ LPp L' 24 (od_k (g 6 m) j k p) ∧ am_al 24 L L'
  | _, _, 0, _, _, _, f, _, _, _ => by omega
  | 0, k, F + 1, p, L, e, f, k1, hL, hs => by
    have h0 := h; have hg2 := hg; obtain ⟨hm, hgv, hp, ha, hd, t0, t1, t2, t3, t4, t5, o0, o1, r0, r1, r2⟩ := h; obtain ⟨gm, gg, gp, ga, gd, gmn, gor, gdi, grd, gsd⟩ := hg
    exact ⟨L, by simp (disch := omega) only [fX12_oddsOf_b49, fX12_oddsOf_b49w, am_lt, li_0, li_1, li_2, li_3, li_4, li_5, li_6, li_7, li_8, li_9, li_10, li_11, li_12, li_15, li_16, li_20, li_21, li_24, li_25, li_26, li_32, li_33, li_38, li_40, li_41, li_42, li_43, li_45, li_47, li_48, li_57, li_58, li_59, li_60, li_61, li_62, li_63, li_74, li_75, li_84, li_91, li_93, li_98, li_100, li_103, li_105, li_107, li_109, li_110, li_111, li_112, li_115, li_118, li_119, li_120, li_121, li_124, li_140, li_180, li_206, li_240, li_255, li_420, li_520, li_999, li_1000, li_1771, li_8240, li_9999, li_88200, li_1000000, li_2097151, li_31, nI_add, pk_mul, zz_sub, zz_an, nI_clamp, zz_leT, zz_leF, zz_ltT, zz_ltF, zz_eqF, zz_eqT, zz_m1, zz_m2, zz_m3, zz_m4, zz_m5, zz_m6, zz_ck, zz_bl, zz_b3, zz_b2, zz_shl, zz_bt0, zz_bt1, pk_div, Nat.zero_add, Nat.add_zero, if_true, if_false, reduceIte, Nat.mul_zero, zz_or0, zz_inT, zz_inF], hL, al_rf⟩
  | j + 1, k, F + 1, p, L, e, f, k1, hL, hs => by
    have h0 := h; have hg2 := hg; obtain ⟨hm, hgv, hp, ha, hd, t0, t1, t2, t3, t4, t5, o0, o1, r0, r1, r2⟩ := h; obtain ⟨gm, gg, gp, ga, gd, gmn, gor, gdi, grd, gsd⟩ := hg
    have b1 := gmn m h2
    have b2 := sm_ge p 21 k (by omega)
    have b3 := sm_ge p 21 (k - 1) (by omega)
    have b4 : p k * g 6 m ≤ p k * 9 := Nat.mul_le_mul_left _ (by omega)
    have b5 : p k * g 6 m / 10 ≤ p k := by omega
    have hL' : ∀ k, k < 21 → L 24 k = lN (p k) := hL
    have e1 : fX12_oddsOf_b49 n d kk (F + 1) (nI m) (nI N) (nI t) (nI k) I L = fX12_oddsOf_b49 n d kk F (nI m) (nI N) (nI t) (nI (k + 1)) I (am_uL (am_uL L 24 k (lN (p k * g 6 m / 10))) 24 (k - 1) (lN (p (k - 1) + (p k - p k * g 6 m / 10)))) := by
      simp (disch := omega) only [fX12_oddsOf_b49, fX12_oddsOf_b49w, am_lt, li_0, li_1, li_2, li_3, li_4, li_5, li_6, li_7, li_8, li_9, li_10, li_11, li_12, li_15, li_16, li_20, li_21, li_24, li_25, li_26, li_32, li_33, li_38, li_40, li_41, li_42, li_43, li_45, li_47, li_48, li_57, li_58, li_59, li_60, li_61, li_62, li_63, li_74, li_75, li_84, li_91, li_93, li_98, li_100, li_103, li_105, li_107, li_109, li_110, li_111, li_112, li_115, li_118, li_119, li_120, li_121, li_124, li_140, li_180, li_206, li_240, li_255, li_420, li_520, li_999, li_1000, li_1771, li_8240, li_9999, li_88200, li_1000000, li_2097151, li_31, nI_add, pk_mul, zz_sub, zz_an, nI_clamp, zz_leT, zz_leF, zz_ltT, zz_ltF, zz_eqF, zz_eqT, zz_m1, zz_m2, zz_m3, zz_m4, zz_m5, zz_m6, zz_ck, zz_bl, zz_b3, zz_b2, zz_shl, zz_bt0, zz_bt1, pk_div, Nat.zero_add, Nat.add_zero, if_true, if_false, reduceIte, Nat.mul_zero, zz_or0, zz_inT, zz_inF, hm, hgv, hp, ha, hd, t0, t1, t2, t3, t4, t5, o0, o1, r0, r1, r2, ll_0, ll_10, ll_g, zl_eqF, zl_div, lN_mul, lN_add, lN_sub, nI_l, uL_s, uL_n, lN_i, hL']
      rw [show p k - (p k - p k * g 6 m / 10) = p k * g 6 m / 10 by omega]
    obtain ⟨L', h3, h4, h5⟩ := pm_odK hg2 h0 n d h2 kk j (k + 1) F (od_st (g 6 m) p k) (am_uL (am_uL L 24 k (lN (p k * g 6 m / 10))) 24 (k - 1) (lN (p (k - 1) + (p k - p k * g 6 m / 10)))) (by omega) (by omega) (by omega) (LP_st2 hL k1) (by rw [od_sum p (by omega) k1 (by omega), hs])
    exact ⟨L', by rw [e1, h3], h4, al_tr (al_up (al_up al_rf)) h5⟩
theorem pm_odD {g : Nat → Nat → Nat} {I : am_I} (hg : GW g) (h : MS I g) (n d : Nat) {m N : Nat} (h2 : m < g 0 0) (hN : N ≤ 40) (hn : 100 < n) : ∀ (j t F : Nat) (p : Nat → Nat) (L : am_L), t + j = N → j < F → LPp L 24 p → sm p 21 = 1000000000 → ∃ L', fX12_oddsOf_b41 n d F (nI m) (nI N) (nI t) I L = some (nI (od_d (g 6 m) j p 0), I, L') ∧ am_al 24 L L'
  | _, _, 0, _, _, _, f, _, _ => by omega
  | 0, t, F + 1, p, L, e, f, hL, hs => by
    have hL' : ∀ k, k < 21 → L 24 k = lN (p k) := hL
    exact ⟨L, by simp (disch := omega) only [fX12_oddsOf_b41, fX12_oddsOf_b41w, am_lt, li_0, li_1, li_2, li_3, li_4, li_5, li_6, li_7, li_8, li_9, li_10, li_11, li_12, li_15, li_16, li_20, li_21, li_24, li_25, li_26, li_32, li_33, li_38, li_40, li_41, li_42, li_43, li_45, li_47, li_48, li_57, li_58, li_59, li_60, li_61, li_62, li_63, li_74, li_75, li_84, li_91, li_93, li_98, li_100, li_103, li_105, li_107, li_109, li_110, li_111, li_112, li_115, li_118, li_119, li_120, li_121, li_124, li_140, li_180, li_206, li_240, li_255, li_420, li_520, li_999, li_1000, li_1771, li_8240, li_9999, li_88200, li_1000000, li_2097151, li_31, nI_add, pk_mul, zz_sub, zz_an, nI_clamp, zz_leT, zz_leF, zz_ltT, zz_ltF, zz_eqF, zz_eqT, zz_m1, zz_m2, zz_m3, zz_m4, zz_m5, zz_m6, zz_ck, zz_bl, zz_b3, zz_b2, zz_shl, zz_bt0, zz_bt1, pk_div, Nat.zero_add, Nat.add_zero, if_true, if_false, reduceIte, Nat.mul_zero, zz_or0, zz_inT, zz_inF, hL', lN_i, od_d], al_rf⟩
  | j + 1, t, F + 1, p, L, e, f, hL, hs => by
    have b1 := hg.2.2.2.2.2.1 m h2
    obtain ⟨L1, h3, h4, h5⟩ := pm_odK hg h n d (N := N) (t := t) h2 (fX12_oddsOf_b41 n d F) 20 1 n p L (by omega) (by omega) (by omega) hL hs
    obtain ⟨L2, h6, h7⟩ := pm_odD hg h n d h2 hN hn j (t + 1) F (od_k (g 6 m) 20 1 p) L1 (by omega) (by omega) h4 (by rw [od_k_sum (by omega) 20 1 p (by omega) (by omega), hs])
    have e1 : fX12_oddsOf_b41 n d (F + 1) (nI m) (nI N) (nI t) I L = fX12_oddsOf_b49 n d (fX12_oddsOf_b41 n d F) n (nI m) (nI N) (nI t) (nI 1) I L := by
      simp (disch := omega) only [fX12_oddsOf_b41, fX12_oddsOf_b41w, am_lt, li_0, li_1, li_2, li_3, li_4, li_5, li_6, li_7, li_8, li_9, li_10, li_11, li_12, li_15, li_16, li_20, li_21, li_24, li_25, li_26, li_32, li_33, li_38, li_40, li_41, li_42, li_43, li_45, li_47, li_48, li_57, li_58, li_59, li_60, li_61, li_62, li_63, li_74, li_75, li_84, li_91, li_93, li_98, li_100, li_103, li_105, li_107, li_109, li_110, li_111, li_112, li_115, li_118, li_119, li_120, li_121, li_124, li_140, li_180, li_206, li_240, li_255, li_420, li_520, li_999, li_1000, li_1771, li_8240, li_9999, li_88200, li_1000000, li_2097151, li_31, nI_add, pk_mul, zz_sub, zz_an, nI_clamp, zz_leT, zz_leF, zz_ltT, zz_ltF, zz_eqF, zz_eqT, zz_m1, zz_m2, zz_m3, zz_m4, zz_m5, zz_m6, zz_ck, zz_bl, zz_b3, zz_b2, zz_shl, zz_bt0, zz_bt1, pk_div, Nat.zero_add, Nat.add_zero, if_true, if_false, reduceIte, Nat.mul_zero, zz_or0, zz_inT, zz_inF]
    exact ⟨L2, by rw [e1, h3, h6]; rfl, al_tr h5 h7⟩
theorem pm_od0 {g : Nat → Nat → Nat} {I : am_I} (hg : GW g) (h : MS I g) (n d : Nat) {m N : Nat} (h2 : m < g 0 0) : ∀ (j k F : Nat) (L : am_L), k + j = 21 → j < F → (∀ y, y < k → L 24 y = lN (od_0 (g 9 m) y)) → ∃ L', fX12_oddsOf_b2 n d F (nI m) (nI N) (nI k) I L = fX12_oddsOf_b41 n d n (nI m) (nI N) (nI 0) I L' ∧ LPp L' 24 (od_0 (g 9 m)) ∧ am_al 24 L L'
  | _, _, 0, _, _, f, _ => by omega
  | 0, k, F + 1, L, e, f, hL => by
    exact ⟨L, by simp (disch := omega) only [fX12_oddsOf_b2, fX12_oddsOf_b2w, am_lt, li_0, li_1, li_2, li_3, li_4, li_5, li_6, li_7, li_8, li_9, li_10, li_11, li_12, li_15, li_16, li_20, li_21, li_24, li_25, li_26, li_32, li_33, li_38, li_40, li_41, li_42, li_43, li_45, li_47, li_48, li_57, li_58, li_59, li_60, li_61, li_62, li_63, li_74, li_75, li_84, li_91, li_93, li_98, li_100, li_103, li_105, li_107, li_109, li_110, li_111, li_112, li_115, li_118, li_119, li_120, li_121, li_124, li_140, li_180, li_206, li_240, li_255, li_420, li_520, li_999, li_1000, li_1771, li_8240, li_9999, li_88200, li_1000000, li_2097151, li_31, nI_add, pk_mul, zz_sub, zz_an, nI_clamp, zz_leT, zz_leF, zz_ltT, zz_ltF, zz_eqF, zz_eqT, zz_m1, zz_m2, zz_m3, zz_m4, zz_m5, zz_m6, zz_ck, zz_bl, zz_b3, zz_b2, zz_shl, zz_bt0, zz_bt1, pk_div, Nat.zero_add, Nat.add_zero, if_true, if_false, reduceIte, Nat.mul_zero, zz_or0, zz_inT, zz_inF], fun y hy => hL y (by omega), al_rf⟩
  | j + 1, k, F + 1, L, e, f, hL => by
    have h0 := h; have hg2 := hg; obtain ⟨hm, hgv, hp, ha, hd, t0, t1, t2, t3, t4, t5, o0, o1, r0, r1, r2⟩ := h; obtain ⟨gm, gg, gp, ga, gd, gmn, gor, gdi, grd, gsd⟩ := hg
    have b1 := grd m h2
    obtain ⟨L', h3, h4, h5⟩ := pm_od0 hg2 h0 n d (N := N) h2 j (k + 1) F (am_uL L 24 k (lN (od_0 (g 9 m) k))) (by omega) (by omega) (fun y hy => by
      by_cases q : y = k
      · rw [uL_s q, q]
      · rw [uL_n q]; exact hL y (by omega))
    refine ⟨L', ?_, h4, al_tr (al_up al_rf) h5⟩
    rw [← h3]
    unfold od_0
    by_cases c : k = g 9 m <;> simp (disch := omega) only [fX12_oddsOf_b2, fX12_oddsOf_b2w, fX12_oddsOf_b32, am_lt, li_0, li_1, li_2, li_3, li_4, li_5, li_6, li_7, li_8, li_9, li_10, li_11, li_12, li_15, li_16, li_20, li_21, li_24, li_25, li_26, li_32, li_33, li_38, li_40, li_41, li_42, li_43, li_45, li_47, li_48, li_57, li_58, li_59, li_60, li_61, li_62, li_63, li_74, li_75, li_84, li_91, li_93, li_98, li_100, li_103, li_105, li_107, li_109, li_110, li_111, li_112, li_115, li_118, li_119, li_120, li_121, li_124, li_140, li_180, li_206, li_240, li_255, li_420, li_520, li_999, li_1000, li_1771, li_8240, li_9999, li_88200, li_1000000, li_2097151, li_31, nI_add, pk_mul, zz_sub, zz_an, nI_clamp, zz_leT, zz_leF, zz_ltT, zz_ltF, zz_eqF, zz_eqT, zz_m1, zz_m2, zz_m3, zz_m4, zz_m5, zz_m6, zz_ck, zz_bl, zz_b3, zz_b2, zz_shl, zz_bt0, zz_bt1, pk_div, Nat.zero_add, Nat.add_zero, if_true, if_false, reduceIte, Nat.mul_zero, zz_or0, zz_inT, zz_inF, hm, hgv, hp, ha, hd, t0, t1, t2, t3, t4, t5, o0, o1, r0, r1, r2, ll_0, ll_g, c, if_true, if_false]
theorem pm_odds {g : Nat → Nat → Nat} {I : am_I} (hg : GW g) (h : MS I g) (n d : Nat) (L : am_L) {m N : Nat} (h2 : m < g 0 0) (hN : N ≤ 40) (hn : 100 < n) : ∃ L', fX12_oddsOf n d (nI m) (nI N) I L = some (nI (g_od g m N), I, L') ∧ am_al 24 L L' := by
  have b1 := hg.2.2.2.2.2.2.2.2.1 m h2
  obtain ⟨L1, h3, h4, h5⟩ := pm_od0 hg h n d (N := N) h2 21 0 n L (by omega) (by omega) (fun y hy => by omega)
  obtain ⟨L2, h6, h7⟩ := pm_odD hg h n d h2 hN hn N 0 n (od_0 (g 9 m)) L1 (by omega) (by omega) h4 (od_0_sum _ b1.1)
  exact ⟨L2, h3.trans h6, al_tr h5 h7⟩
theorem am_N1 : 100 < am_N := by unfold am_N; omega
theorem op_odds {g : Nat → Nat → Nat} {IC IM : am_I} (hg : GW g) (hc : CS IC g) (h : MS IM g) (LC LM : am_L) (e0 e1 : Int32) : ∃ (r : Int32) (LC' LM' : am_L), fX11_odds am_N 1900 e0 e1 IC LC = some (r, IC, LC') ∧ fX12_odds am_N 1900 e0 e1 IM LM = some (r, IM, LM') ∧ am_al 65 LC LC' ∧ am_al 24 LM LM' := by
  have gm := hg.1
  rcases ix_of e0 (n := g 0 0) (by omega) with he | ⟨m, hj, rfl⟩
  · exact ⟨-nI 1, LC, LM, by simp (disch := omega) only [fX11_odds, pc_man0 hg hc am_N 1900 LC he, am_lt, li_0, li_1, li_2, li_3, li_4, li_5, li_6, li_7, li_8, li_9, li_10, li_11, li_12, li_15, li_16, li_20, li_21, li_24, li_25, li_26, li_32, li_33, li_38, li_40, li_41, li_42, li_43, li_45, li_47, li_48, li_57, li_58, li_59, li_60, li_61, li_62, li_63, li_74, li_75, li_84, li_91, li_93, li_98, li_100, li_103, li_105, li_107, li_109, li_110, li_111, li_112, li_115, li_118, li_119, li_120, li_121, li_124, li_140, li_180, li_206, li_240, li_255, li_420, li_520, li_999, li_1000, li_1771, li_8240, li_9999, li_88200, li_1000000, li_2097151, li_31, nI_add, pk_mul, zz_sub, zz_an, nI_clamp, zz_leT, zz_leF, zz_ltT, zz_ltF, zz_eqF, zz_eqT, zz_m1, zz_m2, zz_m3, zz_m4, zz_m5, zz_m6, zz_ck, zz_bl, zz_b3, zz_b2, zz_shl, zz_bt0, zz_bt1, pk_div, Nat.zero_add, Nat.add_zero, if_true, if_false, reduceIte, Nat.mul_zero, zz_or0, zz_inT, zz_inF], by simp (disch := omega) only [fX12_odds, pm_man0 hg h am_N 1900 LM he, am_lt, li_0, li_1, li_2, li_3, li_4, li_5, li_6, li_7, li_8, li_9, li_10, li_11, li_12, li_15, li_16, li_20, li_21, li_24, li_25, li_26, li_32, li_33, li_38, li_40, li_41, li_42, li_43, li_45, li_47, li_48, li_57, li_58, li_59, li_60, li_61, li_62, li_63, li_74, li_75, li_84, li_91, li_93, li_98, li_100, li_103, li_105, li_107, li_109, li_110, li_111, li_112, li_115, li_118, li_119, li_120, li_121, li_124, li_140, li_180, li_206, li_240, li_255, li_420, li_520, li_999, li_1000, li_1771, li_8240, li_9999, li_88200, li_1000000, li_2097151, li_31, nI_add, pk_mul, zz_sub, zz_an, nI_clamp, zz_leT, zz_leF, zz_ltT, zz_ltF, zz_eqF, zz_eqT, zz_m1, zz_m2, zz_m3, zz_m4, zz_m5, zz_m6, zz_ck, zz_bl, zz_b3, zz_b2, zz_shl, zz_bt0, zz_bt1, pk_div, Nat.zero_add, Nat.add_zero, if_true, if_false, reduceIte, Nat.mul_zero, zz_or0, zz_inT, zz_inF], al_rf, al_rf⟩
  · rcases ix_of e1 (n := 41) (by omega) with he | ⟨t, ht, rfl⟩
    · have q := pm_in0 am_N 1900 IM LM he (by omega)
      rw [show nI 41 - nI 1 = nI 40 from rfl] at q
      refine ⟨-nI 1, LC, LM, ?_, by simp (disch := omega) only [fX12_odds, pm_man1 hg h am_N 1900 LM hj, q, am_lt, li_0, li_1, li_2, li_3, li_4, li_5, li_6, li_7, li_8, li_9, li_10, li_11, li_12, li_15, li_16, li_20, li_21, li_24, li_25, li_26, li_32, li_33, li_38, li_40, li_41, li_42, li_43, li_45, li_47, li_48, li_57, li_58, li_59, li_60, li_61, li_62, li_63, li_74, li_75, li_84, li_91, li_93, li_98, li_100, li_103, li_105, li_107, li_109, li_110, li_111, li_112, li_115, li_118, li_119, li_120, li_121, li_124, li_140, li_180, li_206, li_240, li_255, li_420, li_520, li_999, li_1000, li_1771, li_8240, li_9999, li_88200, li_1000000, li_2097151, li_31, nI_add, pk_mul, zz_sub, zz_an, nI_clamp, zz_leT, zz_leF, zz_ltT, zz_ltF, zz_eqF, zz_eqT, zz_m1, zz_m2, zz_m3, zz_m4, zz_m5, zz_m6, zz_ck, zz_bl, zz_b3, zz_b2, zz_shl, zz_bt0, zz_bt1, pk_div, Nat.zero_add, Nat.add_zero, if_true, if_false, reduceIte, Nat.mul_zero, zz_or0, zz_inT, zz_inF], al_rf, al_rf⟩
      by_cases z : e1 < nI 0
      · simp (disch := omega) only [fX11_odds, fX11_isOddsSpan, pc_man1 hg hc am_N 1900 LC hj, am_lt, li_0, li_1, li_2, li_3, li_4, li_5, li_6, li_7, li_8, li_9, li_10, li_11, li_12, li_15, li_16, li_20, li_21, li_24, li_25, li_26, li_32, li_33, li_38, li_40, li_41, li_42, li_43, li_45, li_47, li_48, li_57, li_58, li_59, li_60, li_61, li_62, li_63, li_74, li_75, li_84, li_91, li_93, li_98, li_100, li_103, li_105, li_107, li_109, li_110, li_111, li_112, li_115, li_118, li_119, li_120, li_121, li_124, li_140, li_180, li_206, li_240, li_255, li_420, li_520, li_999, li_1000, li_1771, li_8240, li_9999, li_88200, li_1000000, li_2097151, li_31, nI_add, pk_mul, zz_sub, zz_an, nI_clamp, zz_leT, zz_leF, zz_ltT, zz_ltF, zz_eqF, zz_eqT, zz_m1, zz_m2, zz_m3, zz_m4, zz_m5, zz_m6, zz_ck, zz_bl, zz_b3, zz_b2, zz_shl, zz_bt0, zz_bt1, pk_div, Nat.zero_add, Nat.add_zero, if_true, if_false, reduceIte, Nat.mul_zero, zz_or0, zz_inT, zz_inF, z]
      · have z2 : nI 40 < e1 := by
          have := Int32.le_iff_toInt_le.mp (he.resolve_left z)
          refine Int32.lt_iff_toInt_lt.mpr ?_
          rw [nI_toInt (by omega)] at this ⊢
          omega
        simp (disch := omega) only [fX11_odds, fX11_isOddsSpan, pc_man1 hg hc am_N 1900 LC hj, am_lt, li_0, li_1, li_2, li_3, li_4, li_5, li_6, li_7, li_8, li_9, li_10, li_11, li_12, li_15, li_16, li_20, li_21, li_24, li_25, li_26, li_32, li_33, li_38, li_40, li_41, li_42, li_43, li_45, li_47, li_48, li_57, li_58, li_59, li_60, li_61, li_62, li_63, li_74, li_75, li_84, li_91, li_93, li_98, li_100, li_103, li_105, li_107, li_109, li_110, li_111, li_112, li_115, li_118, li_119, li_120, li_121, li_124, li_140, li_180, li_206, li_240, li_255, li_420, li_520, li_999, li_1000, li_1771, li_8240, li_9999, li_88200, li_1000000, li_2097151, li_31, nI_add, pk_mul, zz_sub, zz_an, nI_clamp, zz_leT, zz_leF, zz_ltT, zz_ltF, zz_eqF, zz_eqT, zz_m1, zz_m2, zz_m3, zz_m4, zz_m5, zz_m6, zz_ck, zz_bl, zz_b3, zz_b2, zz_shl, zz_bt0, zz_bt1, pk_div, Nat.zero_add, Nat.add_zero, if_true, if_false, reduceIte, Nat.mul_zero, zz_or0, zz_inT, zz_inF, z, z2]
    · obtain ⟨L1, h1, h2⟩ := pc_odds hg hc am_N 1900 LC hj (N := t) (by omega) am_N1
      obtain ⟨L2, h3, h4⟩ := pm_odds hg h am_N 1900 LM hj (N := t) (by omega) am_N1
      exact ⟨nI (g_od g m t), L1, L2, by simp (disch := omega) only [fX11_odds, fX11_isOddsSpan, pc_man1 hg hc am_N 1900 LC hj, am_lt, li_0, li_1, li_2, li_3, li_4, li_5, li_6, li_7, li_8, li_9, li_10, li_11, li_12, li_15, li_16, li_20, li_21, li_24, li_25, li_26, li_32, li_33, li_38, li_40, li_41, li_42, li_43, li_45, li_47, li_48, li_57, li_58, li_59, li_60, li_61, li_62, li_63, li_74, li_75, li_84, li_91, li_93, li_98, li_100, li_103, li_105, li_107, li_109, li_110, li_111, li_112, li_115, li_118, li_119, li_120, li_121, li_124, li_140, li_180, li_206, li_240, li_255, li_420, li_520, li_999, li_1000, li_1771, li_8240, li_9999, li_88200, li_1000000, li_2097151, li_31, nI_add, pk_mul, zz_sub, zz_an, nI_clamp, zz_leT, zz_leF, zz_ltT, zz_ltF, zz_eqF, zz_eqT, zz_m1, zz_m2, zz_m3, zz_m4, zz_m5, zz_m6, zz_ck, zz_bl, zz_b3, zz_b2, zz_shl, zz_bt0, zz_bt1, pk_div, Nat.zero_add, Nat.add_zero, if_true, if_false, reduceIte, Nat.mul_zero, zz_or0, zz_inT, zz_inF, h1], by simp (disch := omega) only [fX12_odds, pm_man1 hg h am_N 1900 LM hj, am_lt, li_0, li_1, li_2, li_3, li_4, li_5, li_6, li_7, li_8, li_9, li_10, li_11, li_12, li_15, li_16, li_20, li_21, li_24, li_25, li_26, li_32, li_33, li_38, li_40, li_41, li_42, li_43, li_45, li_47, li_48, li_57, li_58, li_59, li_60, li_61, li_62, li_63, li_74, li_75, li_84, li_91, li_93, li_98, li_100, li_103, li_105, li_107, li_109, li_110, li_111, li_112, li_115, li_118, li_119, li_120, li_121, li_124, li_140, li_180, li_206, li_240, li_255, li_420, li_520, li_999, li_1000, li_1771, li_8240, li_9999, li_88200, li_1000000, li_2097151, li_31, nI_add, pk_mul, zz_sub, zz_an, nI_clamp, zz_leT, zz_leF, zz_ltT, zz_ltF, zz_eqF, zz_eqT, zz_m1, zz_m2, zz_m3, zz_m4, zz_m5, zz_m6, zz_ck, zz_bl, zz_b3, zz_b2, zz_shl, zz_bt0, zz_bt1, pk_div, Nat.zero_add, Nat.add_zero, if_true, if_false, reduceIte, Nat.mul_zero, zz_or0, zz_inT, zz_inF, h3], h2, h4⟩
theorem pc_canGo {g : Nat → Nat → Nat} {I : am_I} (hg : GW g) (h : CS I g) (n d : Nat) (L : am_L) {m : Nat} (h2 : m < g 0 0) : fX7_canGo n d (nI m) I L = some (if 0 < g 9 m then nI 1 else nI 0, I, L) := by
  have h0 := h; have hg2 := hg; obtain ⟨hm, hgv, hp, ha, hd, t0, t1, t2, t3, t4, t5, o0, o1, r0, r1, hde, hra, hs0, hs1⟩ := h; obtain ⟨gm, gg, gp, ga, gd, gmn, gor, gdi, grd, gsd⟩ := hg
  have b1 := grd m h2
  by_cases c : 0 < g 9 m <;> simp (disch := omega) only [fX7_canGo, am_lt, li_0, li_1, li_2, li_3, li_4, li_5, li_6, li_7, li_8, li_9, li_10, li_11, li_12, li_15, li_16, li_20, li_21, li_24, li_25, li_26, li_32, li_33, li_38, li_40, li_41, li_42, li_43, li_45, li_47, li_48, li_57, li_58, li_59, li_60, li_61, li_62, li_63, li_74, li_75, li_84, li_91, li_93, li_98, li_100, li_103, li_105, li_107, li_109, li_110, li_111, li_112, li_115, li_118, li_119, li_120, li_121, li_124, li_140, li_180, li_206, li_240, li_255, li_420, li_520, li_999, li_1000, li_1771, li_8240, li_9999, li_88200, li_1000000, li_2097151, li_31, nI_add, pk_mul, zz_sub, zz_an, nI_clamp, zz_leT, zz_leF, zz_ltT, zz_ltF, zz_eqF, zz_eqT, zz_m1, zz_m2, zz_m3, zz_m4, zz_m5, zz_m6, zz_ck, zz_bl, zz_b3, zz_b2, zz_shl, zz_bt0, zz_bt1, pk_div, Nat.zero_add, Nat.add_zero, if_true, if_false, reduceIte, Nat.mul_zero, zz_or0, zz_inT, zz_inF, hm, hgv, hp, ha, hd, t0, t1, t2, t3, t4, t5, o0, o1, r0, r1, c]
def g_mo (v : Nat → Nat) (b : Nat) : Nat := if b = 0 then 0 else v (b - 1)
theorem pc_hur {g : Nat → Nat → Nat} {I : am_I} (hg : GW g) (h : CS I g) (n d : Nat) {s t : Nat} (hs : s < 2) (ht : t ≤ 40) (hn : 100 < n) : ∀ (j i F : Nat) (L : am_L), i + j = g 0 0 → j < F → ∃ L', fX11_hurry_b25 n d F (nI s) (nI t) (zn (am_best (fun m => decide (g 1 m = s ∧ 0 < g 9 m)) (fun m => g_od g m t) i)) (nI (g_mo (fun m => g_od g m t) (am_best (fun m => decide (g 1 m = s ∧ 0 < g 9 m)) (fun m => g_od g m t) i))) (nI i) I L = some (zn (am_best (fun m => decide (g 1 m = s ∧ 0 < g 9 m)) (fun m => g_od g m t) (g 0 0)), I, L') ∧ am_al 65 L L'
  | _, _, 0, _, _, f => by omega
  | 0, i, F + 1, L, e, f => by
    have h0 := h; have hg2 := hg; obtain ⟨hm, hgv, hp, ha, hd, t0, t1, t2, t3, t4, t5, o0, o1, r0, r1, hde, hra, hs0, hs1⟩ := h; obtain ⟨gm, gg, gp, ga, gd, gmn, gor, gdi, grd, gsd⟩ := hg
    have e1 : i = g 0 0 := by omega
    subst e1
    exact ⟨L, by simp (disch := omega) only [fX11_hurry_b25, fX11_hurry_b25w, am_lt, li_0, li_1, li_2, li_3, li_4, li_5, li_6, li_7, li_8, li_9, li_10, li_11, li_12, li_15, li_16, li_20, li_21, li_24, li_25, li_26, li_32, li_33, li_38, li_40, li_41, li_42, li_43, li_45, li_47, li_48, li_57, li_58, li_59, li_60, li_61, li_62, li_63, li_74, li_75, li_84, li_91, li_93, li_98, li_100, li_103, li_105, li_107, li_109, li_110, li_111, li_112, li_115, li_118, li_119, li_120, li_121, li_124, li_140, li_180, li_206, li_240, li_255, li_420, li_520, li_999, li_1000, li_1771, li_8240, li_9999, li_88200, li_1000000, li_2097151, li_31, nI_add, pk_mul, zz_sub, zz_an, nI_clamp, zz_leT, zz_leF, zz_ltT, zz_ltF, zz_eqF, zz_eqT, zz_m1, zz_m2, zz_m3, zz_m4, zz_m5, zz_m6, zz_ck, zz_bl, zz_b3, zz_b2, zz_shl, zz_bt0, zz_bt1, pk_div, Nat.zero_add, Nat.add_zero, if_true, if_false, reduceIte, Nat.mul_zero, zz_or0, zz_inT, zz_inF, hm, hgv, hp, ha, hd, t0, t1, t2, t3, t4, t5, o0, o1, r0, r1], al_rf⟩
  | j + 1, i, F + 1, L, e, f => by
    have h0 := h; have hg2 := hg; obtain ⟨hm, hgv, hp, ha, hd, t0, t1, t2, t3, t4, t5, o0, o1, r0, r1, hde, hra, hs0, hs1⟩ := h; obtain ⟨gm, gg, gp, ga, gd, gmn, gor, gdi, grd, gsd⟩ := hg
    have i1 : i < g 0 0 := by omega
    have b1 := grd i i1
    have b2 := gmn i i1
    have b3 := g_od_le hg2 i1 t
    have hb := best_le (fun m => decide (g 1 m = s ∧ 0 < g 9 m)) (fun m => g_od g m t) i
    have hw : ∃ L', fX11_partsAtHome n d (nI i) (nI t) I L = some (nI (g_od g i t), I, L') ∧ am_al 65 L L' := pc_odds hg2 h0 n d L i1 ht hn
    obtain ⟨L1, w1, w2⟩ := hw
    have ih := fun L => pc_hur hg2 h0 n d hs ht hn j (i + 1) F L (by omega) (by omega)
    by_cases c1 : g 1 i = s
    · by_cases c2 : 0 < g 9 i
      · obtain ⟨L2, h3, h4⟩ := ih L1
        refine ⟨L2, ?_, al_tr w2 h4⟩
        rcases hB : am_best (fun m => decide (g 1 m = s ∧ 0 < g 9 m)) (fun m => g_od g m t) i with _ | b
        · simp (disch := omega) only [am_best, hB, c1, c2, if_true, if_false, reduceIte, and_true, and_false, true_and, false_and, or_true, or_false, true_or, false_or, not_true, not_false_iff, decide_eq_true_eq, decide_true, decide_false, Bool.false_eq_true, zz_or0, en_0, en_s, g_mo, Nat.add_one_ne_zero, Nat.add_sub_cancel, and_self] at h3
          simp (disch := omega) only [fX11_hurry_b25, fX11_hurry_b25w, fX11_hurry_b91, fX11_hurry_b84, am_lt, li_0, li_1, li_2, li_3, li_4, li_5, li_6, li_7, li_8, li_9, li_10, li_11, li_12, li_15, li_16, li_20, li_21, li_24, li_25, li_26, li_32, li_33, li_38, li_40, li_41, li_42, li_43, li_45, li_47, li_48, li_57, li_58, li_59, li_60, li_61, li_62, li_63, li_74, li_75, li_84, li_91, li_93, li_98, li_100, li_103, li_105, li_107, li_109, li_110, li_111, li_112, li_115, li_118, li_119, li_120, li_121, li_124, li_140, li_180, li_206, li_240, li_255, li_420, li_520, li_999, li_1000, li_1771, li_8240, li_9999, li_88200, li_1000000, li_2097151, li_31, nI_add, pk_mul, zz_sub, zz_an, nI_clamp, zz_leT, zz_leF, zz_ltT, zz_ltF, zz_eqF, zz_eqT, zz_m1, zz_m2, zz_m3, zz_m4, zz_m5, zz_m6, zz_ck, zz_bl, zz_b3, zz_b2, zz_shl, zz_bt0, zz_bt1, pk_div, Nat.zero_add, Nat.add_zero, if_true, if_false, reduceIte, Nat.mul_zero, zz_or0, zz_inT, zz_inF, hm, hgv, hp, ha, hd, t0, t1, t2, t3, t4, t5, o0, o1, r0, r1, en_0, en_s, c1, c2, if_true, if_false, reduceIte, and_true, and_false, true_and, false_and, or_true, or_false, true_or, false_or, not_true, not_false_iff, decide_eq_true_eq, decide_true, decide_false, Bool.false_eq_true, zz_or0, pc_canGo hg2 h0 n d, w1, g_mo]
          exact h3
        · rw [hB] at hb
          have b4 := g_od_le hg2 (m := b) (by omega) t
          by_cases c3 : g_od g b t < g_od g i t <;> (simp (disch := omega) only [am_best, hB, c1, c2, c3, if_true, if_false, reduceIte, and_true, and_false, true_and, false_and, or_true, or_false, true_or, false_or, not_true, not_false_iff, decide_eq_true_eq, decide_true, decide_false, Bool.false_eq_true, zz_or0, en_0, en_s, g_mo, Nat.add_one_ne_zero, Nat.add_sub_cancel, and_self] at h3; simp (disch := omega) only [fX11_hurry_b25, fX11_hurry_b25w, fX11_hurry_b91, fX11_hurry_b84, am_lt, li_0, li_1, li_2, li_3, li_4, li_5, li_6, li_7, li_8, li_9, li_10, li_11, li_12, li_15, li_16, li_20, li_21, li_24, li_25, li_26, li_32, li_33, li_38, li_40, li_41, li_42, li_43, li_45, li_47, li_48, li_57, li_58, li_59, li_60, li_61, li_62, li_63, li_74, li_75, li_84, li_91, li_93, li_98, li_100, li_103, li_105, li_107, li_109, li_110, li_111, li_112, li_115, li_118, li_119, li_120, li_121, li_124, li_140, li_180, li_206, li_240, li_255, li_420, li_520, li_999, li_1000, li_1771, li_8240, li_9999, li_88200, li_1000000, li_2097151, li_31, nI_add, pk_mul, zz_sub, zz_an, nI_clamp, zz_leT, zz_leF, zz_ltT, zz_ltF, zz_eqF, zz_eqT, zz_m1, zz_m2, zz_m3, zz_m4, zz_m5, zz_m6, zz_ck, zz_bl, zz_b3, zz_b2, zz_shl, zz_bt0, zz_bt1, pk_div, Nat.zero_add, Nat.add_zero, if_true, if_false, reduceIte, Nat.mul_zero, zz_or0, zz_inT, zz_inF, hm, hgv, hp, ha, hd, t0, t1, t2, t3, t4, t5, o0, o1, r0, r1, en_0, en_s, c1, c2, if_true, if_false, reduceIte, and_true, and_false, true_and, false_and, or_true, or_false, true_or, false_or, not_true, not_false_iff, decide_eq_true_eq, decide_true, decide_false, Bool.false_eq_true, zz_or0, pc_canGo hg2 h0 n d, w1, g_mo, Nat.add_one_ne_zero, Nat.add_sub_cancel]; exact h3)
      · obtain ⟨L2, h3, h4⟩ := ih L
        refine ⟨L2, ?_, h4⟩
        simp (disch := omega) only [am_best, c1, c2, if_true, if_false, reduceIte, and_true, and_false, true_and, false_and, or_true, or_false, true_or, false_or, not_true, not_false_iff, decide_eq_true_eq, decide_true, decide_false, Bool.false_eq_true, zz_or0] at h3
        simp (disch := omega) only [fX11_hurry_b25, fX11_hurry_b25w, fX11_hurry_b91, fX11_hurry_b84, am_lt, li_0, li_1, li_2, li_3, li_4, li_5, li_6, li_7, li_8, li_9, li_10, li_11, li_12, li_15, li_16, li_20, li_21, li_24, li_25, li_26, li_32, li_33, li_38, li_40, li_41, li_42, li_43, li_45, li_47, li_48, li_57, li_58, li_59, li_60, li_61, li_62, li_63, li_74, li_75, li_84, li_91, li_93, li_98, li_100, li_103, li_105, li_107, li_109, li_110, li_111, li_112, li_115, li_118, li_119, li_120, li_121, li_124, li_140, li_180, li_206, li_240, li_255, li_420, li_520, li_999, li_1000, li_1771, li_8240, li_9999, li_88200, li_1000000, li_2097151, li_31, nI_add, pk_mul, zz_sub, zz_an, nI_clamp, zz_leT, zz_leF, zz_ltT, zz_ltF, zz_eqF, zz_eqT, zz_m1, zz_m2, zz_m3, zz_m4, zz_m5, zz_m6, zz_ck, zz_bl, zz_b3, zz_b2, zz_shl, zz_bt0, zz_bt1, pk_div, Nat.zero_add, Nat.add_zero, if_true, if_false, reduceIte, Nat.mul_zero, zz_or0, zz_inT, zz_inF, hm, hgv, hp, ha, hd, t0, t1, t2, t3, t4, t5, o0, o1, r0, r1, c1, c2, if_true, if_false, reduceIte, and_true, and_false, true_and, false_and, or_true, or_false, true_or, false_or, not_true, not_false_iff, decide_eq_true_eq, decide_true, decide_false, Bool.false_eq_true, zz_or0, pc_canGo hg2 h0 n d]
        exact h3
    · obtain ⟨L2, h3, h4⟩ := ih L
      refine ⟨L2, ?_, h4⟩
      simp (disch := omega) only [am_best, c1, if_true, if_false, reduceIte, and_true, and_false, true_and, false_and, or_true, or_false, true_or, false_or, not_true, not_false_iff, decide_eq_true_eq, decide_true, decide_false, Bool.false_eq_true, zz_or0] at h3
      simp (disch := omega) only [fX11_hurry_b25, fX11_hurry_b25w, fX11_hurry_b91, fX11_hurry_b84, am_lt, li_0, li_1, li_2, li_3, li_4, li_5, li_6, li_7, li_8, li_9, li_10, li_11, li_12, li_15, li_16, li_20, li_21, li_24, li_25, li_26, li_32, li_33, li_38, li_40, li_41, li_42, li_43, li_45, li_47, li_48, li_57, li_58, li_59, li_60, li_61, li_62, li_63, li_74, li_75, li_84, li_91, li_93, li_98, li_100, li_103, li_105, li_107, li_109, li_110, li_111, li_112, li_115, li_118, li_119, li_120, li_121, li_124, li_140, li_180, li_206, li_240, li_255, li_420, li_520, li_999, li_1000, li_1771, li_8240, li_9999, li_88200, li_1000000, li_2097151, li_31, nI_add, pk_mul, zz_sub, zz_an, nI_clamp, zz_leT, zz_leF, zz_ltT, zz_ltF, zz_eqF, zz_eqT, zz_m1, zz_m2, zz_m3, zz_m4, zz_m5, zz_m6, zz_ck, zz_bl, zz_b3, zz_b2, zz_shl, zz_bt0, zz_bt1, pk_div, Nat.zero_add, Nat.add_zero, if_true, if_false, reduceIte, Nat.mul_zero, zz_or0, zz_inT, zz_inF, hm, hgv, hp, ha, hd, t0, t1, t2, t3, t4, t5, o0, o1, r0, r1, c1, if_true, if_false, reduceIte, and_true, and_false, true_and, false_and, or_true, or_false, true_or, false_or, not_true, not_false_iff, decide_eq_true_eq, decide_true, decide_false, Bool.false_eq_true, zz_or0]
      exact h3
def g_mm (v : Nat → Nat) (b : Nat) : Int32 := if b = 0 then -nI 1 else nI (v (b - 1))
theorem mm_max (n d a : Nat) (I : am_I) (L : am_L) (ha : a < 2147483648) : fJ9_max_7cf53 n d (-nI 1) (nI a) I L = some (nI a, I, L) := by
  simp (disch := omega) only [fJ9_max_7cf53, am_lt, li_0, li_1, li_2, li_3, li_4, li_5, li_6, li_7, li_8, li_9, li_10, li_11, li_12, li_15, li_16, li_20, li_21, li_24, li_25, li_26, li_32, li_33, li_38, li_40, li_41, li_42, li_43, li_45, li_47, li_48, li_57, li_58, li_59, li_60, li_61, li_62, li_63, li_74, li_75, li_84, li_91, li_93, li_98, li_100, li_103, li_105, li_107, li_109, li_110, li_111, li_112, li_115, li_118, li_119, li_120, li_121, li_124, li_140, li_180, li_206, li_240, li_255, li_420, li_520, li_999, li_1000, li_1771, li_8240, li_9999, li_88200, li_1000000, li_2097151, li_31, nI_add, pk_mul, zz_sub, zz_an, nI_clamp, zz_leT, zz_leF, zz_ltT, zz_ltF, zz_eqF, zz_eqT, zz_m1, zz_m2, zz_m3, zz_m4, zz_m5, zz_m6, zz_ck, zz_bl, zz_b3, zz_b2, zz_shl, zz_bt0, zz_bt1, pk_div, Nat.zero_add, Nat.add_zero, if_true, if_false, reduceIte, Nat.mul_zero, zz_or0, zz_inT, zz_inF]
theorem mm_max2 (n d a : Nat) (I : am_I) (L : am_L) (ha : a < 2147483648) : fJ9_max_7cf53 n d (nI a) (-nI 1) I L = some (nI a, I, L) := by
  simp (disch := omega) only [fJ9_max_7cf53, am_lt, li_0, li_1, li_2, li_3, li_4, li_5, li_6, li_7, li_8, li_9, li_10, li_11, li_12, li_15, li_16, li_20, li_21, li_24, li_25, li_26, li_32, li_33, li_38, li_40, li_41, li_42, li_43, li_45, li_47, li_48, li_57, li_58, li_59, li_60, li_61, li_62, li_63, li_74, li_75, li_84, li_91, li_93, li_98, li_100, li_103, li_105, li_107, li_109, li_110, li_111, li_112, li_115, li_118, li_119, li_120, li_121, li_124, li_140, li_180, li_206, li_240, li_255, li_420, li_520, li_999, li_1000, li_1771, li_8240, li_9999, li_88200, li_1000000, li_2097151, li_31, nI_add, pk_mul, zz_sub, zz_an, nI_clamp, zz_leT, zz_leF, zz_ltT, zz_ltF, zz_eqF, zz_eqT, zz_m1, zz_m2, zz_m3, zz_m4, zz_m5, zz_m6, zz_ck, zz_bl, zz_b3, zz_b2, zz_shl, zz_bt0, zz_bt1, pk_div, Nat.zero_add, Nat.add_zero, if_true, if_false, reduceIte, Nat.mul_zero, zz_or0, zz_inT, zz_inF]
theorem mm_max3 (n d : Nat) (I : am_I) (L : am_L) : fJ9_max_7cf53 n d (-nI 1) (-nI 1) I L = some (-nI 1, I, L) := by
  unfold fJ9_max_7cf53
  rw [if_neg (by decide)]
theorem m1_le : (-nI 1 ≤ -nI 1) = True := by decide
theorem pm_hur {g : Nat → Nat → Nat} {I : am_I} (hg : GW g) (h : MS I g) (n d : Nat) {s t : Nat} (hs : s < 2) (ht : t ≤ 40) (hn : 100 < n) (hp0 : 0 < g 0 0) : ∀ (j i F : Nat) (L : am_L), i + j = g 0 0 → j < F → ∃ L', fX12_hurry_b8 n d F (nI s) (nI t) (zn (am_best (fun m => decide (g 1 m = s ∧ 0 < g 9 m)) (fun m => g_od g m t) i)) (g_mm (fun m => g_od g m t) (am_best (fun m => decide (g 1 m = s ∧ 0 < g 9 m)) (fun m => g_od g m t) i)) (nI i) I L = some (zn (am_best (fun m => decide (g 1 m = s ∧ 0 < g 9 m)) (fun m => g_od g m t) (g 0 0)), I, L') ∧ am_al 24 L L'
  | _, _, 0, _, _, f => by omega
  | 0, i, F + 1, L, e, f => by
    have h0 := h; have hg2 := hg; obtain ⟨hm, hgv, hp, ha, hd, t0, t1, t2, t3, t4, t5, o0, o1, r0, r1, r2⟩ := h; obtain ⟨gm, gg, gp, ga, gd, gmn, gor, gdi, grd, gsd⟩ := hg
    have e1 : i = g 0 0 := by omega
    subst e1
    exact ⟨L, by simp (disch := omega) only [fX12_hurry_b8, fX12_hurry_b8w, pm_is1 hg2 h0 n d _ hs hp0, am_lt, li_0, li_1, li_2, li_3, li_4, li_5, li_6, li_7, li_8, li_9, li_10, li_11, li_12, li_15, li_16, li_20, li_21, li_24, li_25, li_26, li_32, li_33, li_38, li_40, li_41, li_42, li_43, li_45, li_47, li_48, li_57, li_58, li_59, li_60, li_61, li_62, li_63, li_74, li_75, li_84, li_91, li_93, li_98, li_100, li_103, li_105, li_107, li_109, li_110, li_111, li_112, li_115, li_118, li_119, li_120, li_121, li_124, li_140, li_180, li_206, li_240, li_255, li_420, li_520, li_999, li_1000, li_1771, li_8240, li_9999, li_88200, li_1000000, li_2097151, li_31, nI_add, pk_mul, zz_sub, zz_an, nI_clamp, zz_leT, zz_leF, zz_ltT, zz_ltF, zz_eqF, zz_eqT, zz_m1, zz_m2, zz_m3, zz_m4, zz_m5, zz_m6, zz_ck, zz_bl, zz_b3, zz_b2, zz_shl, zz_bt0, zz_bt1, pk_div, Nat.zero_add, Nat.add_zero, if_true, if_false, reduceIte, Nat.mul_zero, zz_or0, zz_inT, zz_inF, hm, hgv, hp, ha, hd, t0, t1, t2, t3, t4, t5, o0, o1, r0, r1, r2], al_rf⟩
  | j + 1, i, F + 1, L, e, f => by
    have h0 := h; have hg2 := hg; obtain ⟨hm, hgv, hp, ha, hd, t0, t1, t2, t3, t4, t5, o0, o1, r0, r1, r2⟩ := h; obtain ⟨gm, gg, gp, ga, gd, gmn, gor, gdi, grd, gsd⟩ := hg
    have i1 : i < g 0 0 := by omega
    have b1 := grd i i1
    have b2 := gmn i i1
    have b3 := g_od_le hg2 i1 t
    have hb := best_le (fun m => decide (g 1 m = s ∧ 0 < g 9 m)) (fun m => g_od g m t) i
    have hw : ∃ L', fX12_oddsOf n d (nI i) (nI t) I L = some (nI (g_od g i t), I, L') ∧ am_al 24 L L' := pm_odds hg2 h0 n d L i1 ht hn
    obtain ⟨L1, w1, w2⟩ := hw
    have ih := fun L => pm_hur hg2 h0 n d hs ht hn hp0 j (i + 1) F L (by omega) (by omega)
    by_cases c1 : g 1 i = s
    · by_cases c2 : 0 < g 9 i
      · obtain ⟨L2, h3, h4⟩ := ih L1
        refine ⟨L2, ?_, al_tr w2 h4⟩
        rcases hB : am_best (fun m => decide (g 1 m = s ∧ 0 < g 9 m)) (fun m => g_od g m t) i with _ | b
        · simp (disch := omega) only [am_best, hB, c1, c2, if_true, if_false, reduceIte, and_true, and_false, true_and, false_and, or_true, or_false, true_or, false_or, not_true, not_false_iff, decide_eq_true_eq, decide_true, decide_false, Bool.false_eq_true, zz_or0, en_0, en_s, g_mm, Nat.add_one_ne_zero, Nat.add_sub_cancel, and_self] at h3
          simp (disch := omega) only [fX12_hurry_b8, fX12_hurry_b8w, fX12_hurry_b67, fX12_hurry_b68, fX12_hurry_b83, pm_is1 hg2 h0 n d _ hs hp0, pm_side hg2 h0 n d, am_lt, li_0, li_1, li_2, li_3, li_4, li_5, li_6, li_7, li_8, li_9, li_10, li_11, li_12, li_15, li_16, li_20, li_21, li_24, li_25, li_26, li_32, li_33, li_38, li_40, li_41, li_42, li_43, li_45, li_47, li_48, li_57, li_58, li_59, li_60, li_61, li_62, li_63, li_74, li_75, li_84, li_91, li_93, li_98, li_100, li_103, li_105, li_107, li_109, li_110, li_111, li_112, li_115, li_118, li_119, li_120, li_121, li_124, li_140, li_180, li_206, li_240, li_255, li_420, li_520, li_999, li_1000, li_1771, li_8240, li_9999, li_88200, li_1000000, li_2097151, li_31, nI_add, pk_mul, zz_sub, zz_an, nI_clamp, zz_leT, zz_leF, zz_ltT, zz_ltF, zz_eqF, zz_eqT, zz_m1, zz_m2, zz_m3, zz_m4, zz_m5, zz_m6, zz_ck, zz_bl, zz_b3, zz_b2, zz_shl, zz_bt0, zz_bt1, pk_div, Nat.zero_add, Nat.add_zero, if_true, if_false, reduceIte, Nat.mul_zero, zz_or0, zz_inT, zz_inF, hm, hgv, hp, ha, hd, t0, t1, t2, t3, t4, t5, o0, o1, r0, r1, r2, en_0, en_s, c1, c2, if_true, if_false, reduceIte, and_true, and_false, true_and, false_and, or_true, or_false, true_or, false_or, not_true, not_false_iff, decide_eq_true_eq, decide_true, decide_false, Bool.false_eq_true, zz_or0, w1, g_mm, mm_max]
          exact h3
        · rw [hB] at hb
          have b4 := g_od_le hg2 (m := b) (by omega) t
          by_cases c3 : g_od g b t < g_od g i t
          · simp (disch := omega) only [am_best, hB, c1, c2, c3, if_true, if_false, reduceIte, and_true, and_false, true_and, false_and, or_true, or_false, true_or, false_or, not_true, not_false_iff, decide_eq_true_eq, decide_true, decide_false, Bool.false_eq_true, zz_or0, en_0, en_s, g_mm, Nat.add_one_ne_zero, Nat.add_sub_cancel, and_self] at h3
            simp (disch := omega) only [fX12_hurry_b8, fX12_hurry_b8w, fX12_hurry_b67, fX12_hurry_b68, fX12_hurry_b83, pm_is1 hg2 h0 n d _ hs hp0, pm_side hg2 h0 n d, am_lt, li_0, li_1, li_2, li_3, li_4, li_5, li_6, li_7, li_8, li_9, li_10, li_11, li_12, li_15, li_16, li_20, li_21, li_24, li_25, li_26, li_32, li_33, li_38, li_40, li_41, li_42, li_43, li_45, li_47, li_48, li_57, li_58, li_59, li_60, li_61, li_62, li_63, li_74, li_75, li_84, li_91, li_93, li_98, li_100, li_103, li_105, li_107, li_109, li_110, li_111, li_112, li_115, li_118, li_119, li_120, li_121, li_124, li_140, li_180, li_206, li_240, li_255, li_420, li_520, li_999, li_1000, li_1771, li_8240, li_9999, li_88200, li_1000000, li_2097151, li_31, nI_add, pk_mul, zz_sub, zz_an, nI_clamp, zz_leT, zz_leF, zz_ltT, zz_ltF, zz_eqF, zz_eqT, zz_m1, zz_m2, zz_m3, zz_m4, zz_m5, zz_m6, zz_ck, zz_bl, zz_b3, zz_b2, zz_shl, zz_bt0, zz_bt1, pk_div, Nat.zero_add, Nat.add_zero, if_true, if_false, reduceIte, Nat.mul_zero, zz_or0, zz_inT, zz_inF, hm, hgv, hp, ha, hd, t0, t1, t2, t3, t4, t5, o0, o1, r0, r1, r2, en_0, en_s, c1, c2, if_true, if_false, reduceIte, and_true, and_false, true_and, false_and, or_true, or_false, true_or, false_or, not_true, not_false_iff, decide_eq_true_eq, decide_true, decide_false, Bool.false_eq_true, zz_or0, w1, g_mm, J_max, Nat.add_one_ne_zero, Nat.add_sub_cancel]
            rw [Nat.max_eq_right (by omega)]
            exact h3
          · simp (disch := omega) only [am_best, hB, c1, c2, c3, if_true, if_false, reduceIte, and_true, and_false, true_and, false_and, or_true, or_false, true_or, false_or, not_true, not_false_iff, decide_eq_true_eq, decide_true, decide_false, Bool.false_eq_true, zz_or0, en_0, en_s, g_mm, Nat.add_one_ne_zero, Nat.add_sub_cancel, and_self] at h3
            simp (disch := omega) only [fX12_hurry_b8, fX12_hurry_b8w, fX12_hurry_b67, fX12_hurry_b68, fX12_hurry_b83, pm_is1 hg2 h0 n d _ hs hp0, pm_side hg2 h0 n d, am_lt, li_0, li_1, li_2, li_3, li_4, li_5, li_6, li_7, li_8, li_9, li_10, li_11, li_12, li_15, li_16, li_20, li_21, li_24, li_25, li_26, li_32, li_33, li_38, li_40, li_41, li_42, li_43, li_45, li_47, li_48, li_57, li_58, li_59, li_60, li_61, li_62, li_63, li_74, li_75, li_84, li_91, li_93, li_98, li_100, li_103, li_105, li_107, li_109, li_110, li_111, li_112, li_115, li_118, li_119, li_120, li_121, li_124, li_140, li_180, li_206, li_240, li_255, li_420, li_520, li_999, li_1000, li_1771, li_8240, li_9999, li_88200, li_1000000, li_2097151, li_31, nI_add, pk_mul, zz_sub, zz_an, nI_clamp, zz_leT, zz_leF, zz_ltT, zz_ltF, zz_eqF, zz_eqT, zz_m1, zz_m2, zz_m3, zz_m4, zz_m5, zz_m6, zz_ck, zz_bl, zz_b3, zz_b2, zz_shl, zz_bt0, zz_bt1, pk_div, Nat.zero_add, Nat.add_zero, if_true, if_false, reduceIte, Nat.mul_zero, zz_or0, zz_inT, zz_inF, hm, hgv, hp, ha, hd, t0, t1, t2, t3, t4, t5, o0, o1, r0, r1, r2, en_0, en_s, c1, c2, if_true, if_false, reduceIte, and_true, and_false, true_and, false_and, or_true, or_false, true_or, false_or, not_true, not_false_iff, decide_eq_true_eq, decide_true, decide_false, Bool.false_eq_true, zz_or0, w1, g_mm, J_max, Nat.add_one_ne_zero, Nat.add_sub_cancel]
            rw [Nat.max_eq_left (by omega)]
            exact h3
      · obtain ⟨L2, h3, h4⟩ := ih L
        refine ⟨L2, ?_, h4⟩
        simp (disch := omega) only [am_best, c1, c2, if_true, if_false, reduceIte, and_true, and_false, true_and, false_and, or_true, or_false, true_or, false_or, not_true, not_false_iff, decide_eq_true_eq, decide_true, decide_false, Bool.false_eq_true, zz_or0] at h3
        rcases hB : am_best (fun m => decide (g 1 m = s ∧ 0 < g 9 m)) (fun m => g_od g m t) i with _ | b
        · rw [hB] at h3
          simp (disch := omega) only [fX12_hurry_b8, fX12_hurry_b8w, fX12_hurry_b67, fX12_hurry_b68, fX12_hurry_b83, pm_is1 hg2 h0 n d _ hs hp0, pm_side hg2 h0 n d, am_lt, li_0, li_1, li_2, li_3, li_4, li_5, li_6, li_7, li_8, li_9, li_10, li_11, li_12, li_15, li_16, li_20, li_21, li_24, li_25, li_26, li_32, li_33, li_38, li_40, li_41, li_42, li_43, li_45, li_47, li_48, li_57, li_58, li_59, li_60, li_61, li_62, li_63, li_74, li_75, li_84, li_91, li_93, li_98, li_100, li_103, li_105, li_107, li_109, li_110, li_111, li_112, li_115, li_118, li_119, li_120, li_121, li_124, li_140, li_180, li_206, li_240, li_255, li_420, li_520, li_999, li_1000, li_1771, li_8240, li_9999, li_88200, li_1000000, li_2097151, li_31, nI_add, pk_mul, zz_sub, zz_an, nI_clamp, zz_leT, zz_leF, zz_ltT, zz_ltF, zz_eqF, zz_eqT, zz_m1, zz_m2, zz_m3, zz_m4, zz_m5, zz_m6, zz_ck, zz_bl, zz_b3, zz_b2, zz_shl, zz_bt0, zz_bt1, pk_div, Nat.zero_add, Nat.add_zero, if_true, if_false, reduceIte, Nat.mul_zero, zz_or0, zz_inT, zz_inF, hm, hgv, hp, ha, hd, t0, t1, t2, t3, t4, t5, o0, o1, r0, r1, r2, c1, c2, if_true, if_false, reduceIte, and_true, and_false, true_and, false_and, or_true, or_false, true_or, false_or, not_true, not_false_iff, decide_eq_true_eq, decide_true, decide_false, Bool.false_eq_true, zz_or0, g_mm, mm_max3, m1_le] at h3 ⊢
          exact h3
        · rw [hB] at h3 hb
          have b4 := g_od_le hg2 (m := b) (by omega) t
          simp (disch := omega) only [fX12_hurry_b8, fX12_hurry_b8w, fX12_hurry_b67, fX12_hurry_b68, fX12_hurry_b83, pm_is1 hg2 h0 n d _ hs hp0, pm_side hg2 h0 n d, am_lt, li_0, li_1, li_2, li_3, li_4, li_5, li_6, li_7, li_8, li_9, li_10, li_11, li_12, li_15, li_16, li_20, li_21, li_24, li_25, li_26, li_32, li_33, li_38, li_40, li_41, li_42, li_43, li_45, li_47, li_48, li_57, li_58, li_59, li_60, li_61, li_62, li_63, li_74, li_75, li_84, li_91, li_93, li_98, li_100, li_103, li_105, li_107, li_109, li_110, li_111, li_112, li_115, li_118, li_119, li_120, li_121, li_124, li_140, li_180, li_206, li_240, li_255, li_420, li_520, li_999, li_1000, li_1771, li_8240, li_9999, li_88200, li_1000000, li_2097151, li_31, nI_add, pk_mul, zz_sub, zz_an, nI_clamp, zz_leT, zz_leF, zz_ltT, zz_ltF, zz_eqF, zz_eqT, zz_m1, zz_m2, zz_m3, zz_m4, zz_m5, zz_m6, zz_ck, zz_bl, zz_b3, zz_b2, zz_shl, zz_bt0, zz_bt1, pk_div, Nat.zero_add, Nat.add_zero, if_true, if_false, reduceIte, Nat.mul_zero, zz_or0, zz_inT, zz_inF, hm, hgv, hp, ha, hd, t0, t1, t2, t3, t4, t5, o0, o1, r0, r1, r2, c1, c2, if_true, if_false, reduceIte, and_true, and_false, true_and, false_and, or_true, or_false, true_or, false_or, not_true, not_false_iff, decide_eq_true_eq, decide_true, decide_false, Bool.false_eq_true, zz_or0, g_mm, mm_max2, Nat.add_one_ne_zero, Nat.add_sub_cancel] at h3 ⊢
          exact h3
    · obtain ⟨L2, h3, h4⟩ := ih L
      refine ⟨L2, ?_, h4⟩
      simp (disch := omega) only [am_best, c1, if_true, if_false, reduceIte, and_true, and_false, true_and, false_and, or_true, or_false, true_or, false_or, not_true, not_false_iff, decide_eq_true_eq, decide_true, decide_false, Bool.false_eq_true, zz_or0] at h3
      rcases hB : am_best (fun m => decide (g 1 m = s ∧ 0 < g 9 m)) (fun m => g_od g m t) i with _ | b
      · rw [hB] at h3
        simp (disch := omega) only [fX12_hurry_b8, fX12_hurry_b8w, fX12_hurry_b67, fX12_hurry_b68, fX12_hurry_b83, pm_is1 hg2 h0 n d _ hs hp0, pm_side hg2 h0 n d, am_lt, li_0, li_1, li_2, li_3, li_4, li_5, li_6, li_7, li_8, li_9, li_10, li_11, li_12, li_15, li_16, li_20, li_21, li_24, li_25, li_26, li_32, li_33, li_38, li_40, li_41, li_42, li_43, li_45, li_47, li_48, li_57, li_58, li_59, li_60, li_61, li_62, li_63, li_74, li_75, li_84, li_91, li_93, li_98, li_100, li_103, li_105, li_107, li_109, li_110, li_111, li_112, li_115, li_118, li_119, li_120, li_121, li_124, li_140, li_180, li_206, li_240, li_255, li_420, li_520, li_999, li_1000, li_1771, li_8240, li_9999, li_88200, li_1000000, li_2097151, li_31, nI_add, pk_mul, zz_sub, zz_an, nI_clamp, zz_leT, zz_leF, zz_ltT, zz_ltF, zz_eqF, zz_eqT, zz_m1, zz_m2, zz_m3, zz_m4, zz_m5, zz_m6, zz_ck, zz_bl, zz_b3, zz_b2, zz_shl, zz_bt0, zz_bt1, pk_div, Nat.zero_add, Nat.add_zero, if_true, if_false, reduceIte, Nat.mul_zero, zz_or0, zz_inT, zz_inF, hm, hgv, hp, ha, hd, t0, t1, t2, t3, t4, t5, o0, o1, r0, r1, r2, c1, if_true, if_false, reduceIte, and_true, and_false, true_and, false_and, or_true, or_false, true_or, false_or, not_true, not_false_iff, decide_eq_true_eq, decide_true, decide_false, Bool.false_eq_true, zz_or0, g_mm, mm_max3, m1_le] at h3 ⊢
        exact h3
      · rw [hB] at h3 hb
        have b4 := g_od_le hg2 (m := b) (by omega) t
        simp (disch := omega) only [fX12_hurry_b8, fX12_hurry_b8w, fX12_hurry_b67, fX12_hurry_b68, fX12_hurry_b83, pm_is1 hg2 h0 n d _ hs hp0, pm_side hg2 h0 n d, am_lt, li_0, li_1, li_2, li_3, li_4, li_5, li_6, li_7, li_8, li_9, li_10, li_11, li_12, li_15, li_16, li_20, li_21, li_24, li_25, li_26, li_32, li_33, li_38, li_40, li_41, li_42, li_43, li_45, li_47, li_48, li_57, li_58, li_59, li_60, li_61, li_62, li_63, li_74, li_75, li_84, li_91, li_93, li_98, li_100, li_103, li_105, li_107, li_109, li_110, li_111, li_112, li_115, li_118, li_119, li_120, li_121, li_124, li_140, li_180, li_206, li_240, li_255, li_420, li_520, li_999, li_1000, li_1771, li_8240, li_9999, li_88200, li_1000000, li_2097151, li_31, nI_add, pk_mul, zz_sub, zz_an, nI_clamp, zz_leT, zz_leF, zz_ltT, zz_ltF, zz_eqF, zz_eqT, zz_m1, zz_m2, zz_m3, zz_m4, zz_m5, zz_m6, zz_ck, zz_bl, zz_b3, zz_b2, zz_shl, zz_bt0, zz_bt1, pk_div, Nat.zero_add, Nat.add_zero, if_true, if_false, reduceIte, Nat.mul_zero, zz_or0, zz_inT, zz_inF, hm, hgv, hp, ha, hd, t0, t1, t2, t3, t4, t5, o0, o1, r0, r1, r2, c1, if_true, if_false, reduceIte, and_true, and_false, true_and, false_and, or_true, or_false, true_or, false_or, not_true, not_false_iff, decide_eq_true_eq, decide_true, decide_false, Bool.false_eq_true, zz_or0, g_mm, mm_max2, Nat.add_one_ne_zero, Nat.add_sub_cancel] at h3 ⊢
        exact h3
theorem op_hurry {g : Nat → Nat → Nat} {IC IM : am_I} (hg : GW g) (hc : CS IC g) (h : MS IM g) (LC LM : am_L) (e0 e1 : Int32) : ∃ (r : Int32) (LC' LM' : am_L), fX11_hurry am_N 1900 e0 e1 IC LC = some (r, IC, LC') ∧ fX12_hurry am_N 1900 e0 e1 IM LM = some (r, IM, LM') ∧ am_al 65 LC LC' ∧ am_al 24 LM LM' := by
  have gm := hg.1
  rcases side_of (g := g) e0 with he | ⟨s, hs, rfl, h0⟩
  · refine ⟨-nI 1, LC, LM, by simp (disch := omega) only [fX11_hurry, pc_is0 hg hc am_N 1900 LC he, am_lt, li_0, li_1, li_2, li_3, li_4, li_5, li_6, li_7, li_8, li_9, li_10, li_11, li_12, li_15, li_16, li_20, li_21, li_24, li_25, li_26, li_32, li_33, li_38, li_40, li_41, li_42, li_43, li_45, li_47, li_48, li_57, li_58, li_59, li_60, li_61, li_62, li_63, li_74, li_75, li_84, li_91, li_93, li_98, li_100, li_103, li_105, li_107, li_109, li_110, li_111, li_112, li_115, li_118, li_119, li_120, li_121, li_124, li_140, li_180, li_206, li_240, li_255, li_420, li_520, li_999, li_1000, li_1771, li_8240, li_9999, li_88200, li_1000000, li_2097151, li_31, nI_add, pk_mul, zz_sub, zz_an, nI_clamp, zz_leT, zz_leF, zz_ltT, zz_ltF, zz_eqF, zz_eqT, zz_m1, zz_m2, zz_m3, zz_m4, zz_m5, zz_m6, zz_ck, zz_bl, zz_b3, zz_b2, zz_shl, zz_bt0, zz_bt1, pk_div, Nat.zero_add, Nat.add_zero, if_true, if_false, reduceIte, Nat.mul_zero, zz_or0, zz_inT, zz_inF], ?_, al_rf, al_rf⟩
    have q : ∀ F, fX12_hurry_b8 am_N 1900 (F + 1) e0 e1 (-1) (-1) 0 IM LM = some (-nI 1, IM, LM) := fun F => by simp (disch := omega) only [fX12_hurry_b8, fX12_hurry_b8w, pm_is0 hg h am_N 1900 LM he, am_lt, li_0, li_1, li_2, li_3, li_4, li_5, li_6, li_7, li_8, li_9, li_10, li_11, li_12, li_15, li_16, li_20, li_21, li_24, li_25, li_26, li_32, li_33, li_38, li_40, li_41, li_42, li_43, li_45, li_47, li_48, li_57, li_58, li_59, li_60, li_61, li_62, li_63, li_74, li_75, li_84, li_91, li_93, li_98, li_100, li_103, li_105, li_107, li_109, li_110, li_111, li_112, li_115, li_118, li_119, li_120, li_121, li_124, li_140, li_180, li_206, li_240, li_255, li_420, li_520, li_999, li_1000, li_1771, li_8240, li_9999, li_88200, li_1000000, li_2097151, li_31, nI_add, pk_mul, zz_sub, zz_an, nI_clamp, zz_leT, zz_leF, zz_ltT, zz_ltF, zz_eqF, zz_eqT, zz_m1, zz_m2, zz_m3, zz_m4, zz_m5, zz_m6, zz_ck, zz_bl, zz_b3, zz_b2, zz_shl, zz_bt0, zz_bt1, pk_div, Nat.zero_add, Nat.add_zero, if_true, if_false, reduceIte, Nat.mul_zero, zz_or0, zz_inT, zz_inF]
    exact q 99999
  · rcases ix_of e1 (n := 41) (by omega) with he | ⟨t, ht, rfl⟩
    · have q := pm_in0 am_N 1900 IM LM he (by omega)
      rw [show nI 41 - nI 1 = nI 40 from rfl] at q
      refine ⟨-nI 1, LC, LM, ?_, ?_, al_rf, al_rf⟩
      · by_cases z : e1 < nI 0
        · simp (disch := omega) only [fX11_hurry, fX11_isOddsSpan, pc_is1 hg hc am_N 1900 LC hs h0, am_lt, li_0, li_1, li_2, li_3, li_4, li_5, li_6, li_7, li_8, li_9, li_10, li_11, li_12, li_15, li_16, li_20, li_21, li_24, li_25, li_26, li_32, li_33, li_38, li_40, li_41, li_42, li_43, li_45, li_47, li_48, li_57, li_58, li_59, li_60, li_61, li_62, li_63, li_74, li_75, li_84, li_91, li_93, li_98, li_100, li_103, li_105, li_107, li_109, li_110, li_111, li_112, li_115, li_118, li_119, li_120, li_121, li_124, li_140, li_180, li_206, li_240, li_255, li_420, li_520, li_999, li_1000, li_1771, li_8240, li_9999, li_88200, li_1000000, li_2097151, li_31, nI_add, pk_mul, zz_sub, zz_an, nI_clamp, zz_leT, zz_leF, zz_ltT, zz_ltF, zz_eqF, zz_eqT, zz_m1, zz_m2, zz_m3, zz_m4, zz_m5, zz_m6, zz_ck, zz_bl, zz_b3, zz_b2, zz_shl, zz_bt0, zz_bt1, pk_div, Nat.zero_add, Nat.add_zero, if_true, if_false, reduceIte, Nat.mul_zero, zz_or0, zz_inT, zz_inF, z]
        · have z2 : nI 40 < e1 := by
            have := Int32.le_iff_toInt_le.mp (he.resolve_left z)
            refine Int32.lt_iff_toInt_lt.mpr ?_
            rw [nI_toInt (by omega)] at this ⊢
            omega
          simp (disch := omega) only [fX11_hurry, fX11_isOddsSpan, pc_is1 hg hc am_N 1900 LC hs h0, am_lt, li_0, li_1, li_2, li_3, li_4, li_5, li_6, li_7, li_8, li_9, li_10, li_11, li_12, li_15, li_16, li_20, li_21, li_24, li_25, li_26, li_32, li_33, li_38, li_40, li_41, li_42, li_43, li_45, li_47, li_48, li_57, li_58, li_59, li_60, li_61, li_62, li_63, li_74, li_75, li_84, li_91, li_93, li_98, li_100, li_103, li_105, li_107, li_109, li_110, li_111, li_112, li_115, li_118, li_119, li_120, li_121, li_124, li_140, li_180, li_206, li_240, li_255, li_420, li_520, li_999, li_1000, li_1771, li_8240, li_9999, li_88200, li_1000000, li_2097151, li_31, nI_add, pk_mul, zz_sub, zz_an, nI_clamp, zz_leT, zz_leF, zz_ltT, zz_ltF, zz_eqF, zz_eqT, zz_m1, zz_m2, zz_m3, zz_m4, zz_m5, zz_m6, zz_ck, zz_bl, zz_b3, zz_b2, zz_shl, zz_bt0, zz_bt1, pk_div, Nat.zero_add, Nat.add_zero, if_true, if_false, reduceIte, Nat.mul_zero, zz_or0, zz_inT, zz_inF, z, z2]
      · have w : ∀ F, fX12_hurry_b8 am_N 1900 (F + 1) (nI s) e1 (-1) (-1) 0 IM LM = some (-nI 1, IM, LM) := fun F => by simp (disch := omega) only [fX12_hurry_b8, fX12_hurry_b8w, pm_is1 hg h am_N 1900 LM hs h0, q, am_lt, li_0, li_1, li_2, li_3, li_4, li_5, li_6, li_7, li_8, li_9, li_10, li_11, li_12, li_15, li_16, li_20, li_21, li_24, li_25, li_26, li_32, li_33, li_38, li_40, li_41, li_42, li_43, li_45, li_47, li_48, li_57, li_58, li_59, li_60, li_61, li_62, li_63, li_74, li_75, li_84, li_91, li_93, li_98, li_100, li_103, li_105, li_107, li_109, li_110, li_111, li_112, li_115, li_118, li_119, li_120, li_121, li_124, li_140, li_180, li_206, li_240, li_255, li_420, li_520, li_999, li_1000, li_1771, li_8240, li_9999, li_88200, li_1000000, li_2097151, li_31, nI_add, pk_mul, zz_sub, zz_an, nI_clamp, zz_leT, zz_leF, zz_ltT, zz_ltF, zz_eqF, zz_eqT, zz_m1, zz_m2, zz_m3, zz_m4, zz_m5, zz_m6, zz_ck, zz_bl, zz_b3, zz_b2, zz_shl, zz_bt0, zz_bt1, pk_div, Nat.zero_add, Nat.add_zero, if_true, if_false, reduceIte, Nat.mul_zero, zz_or0, zz_inT, zz_inF]
        exact w 99999
    · obtain ⟨L1, h1, h2⟩ := pc_hur hg hc am_N 1900 hs (t := t) (by omega) am_N1 (g 0 0) 0 am_N LC (by omega) (by unfold am_N; omega)
      obtain ⟨L2, h3, h4⟩ := pm_hur hg h am_N 1900 hs (t := t) (by omega) am_N1 h0 (g 0 0) 0 am_N LM (by omega) (by unfold am_N; omega)
      refine ⟨_, L1, L2, ?_, h3, h2, h4⟩
      simp (disch := omega) only [fX11_hurry, fX11_isOddsSpan, pc_is1 hg hc am_N 1900 LC hs h0, am_lt, li_0, li_1, li_2, li_3, li_4, li_5, li_6, li_7, li_8, li_9, li_10, li_11, li_12, li_15, li_16, li_20, li_21, li_24, li_25, li_26, li_32, li_33, li_38, li_40, li_41, li_42, li_43, li_45, li_47, li_48, li_57, li_58, li_59, li_60, li_61, li_62, li_63, li_74, li_75, li_84, li_91, li_93, li_98, li_100, li_103, li_105, li_107, li_109, li_110, li_111, li_112, li_115, li_118, li_119, li_120, li_121, li_124, li_140, li_180, li_206, li_240, li_255, li_420, li_520, li_999, li_1000, li_1771, li_8240, li_9999, li_88200, li_1000000, li_2097151, li_31, nI_add, pk_mul, zz_sub, zz_an, nI_clamp, zz_leT, zz_leF, zz_ltT, zz_ltF, zz_eqF, zz_eqT, zz_m1, zz_m2, zz_m3, zz_m4, zz_m5, zz_m6, zz_ck, zz_bl, zz_b3, zz_b2, zz_shl, zz_bt0, zz_bt1, pk_div, Nat.zero_add, Nat.add_zero, if_true, if_false, reduceIte, Nat.mul_zero, zz_or0, zz_inT, zz_inF]
      exact h1
