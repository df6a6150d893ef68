/-! PURE: an atom in a law's text, whole. -/
theorem nn_s1 {z : Nat} (h : z < 1000) : -nI 1 - nI z = -nI (z + 1) := by
  apply Int32.toInt_inj.mp
  rw [Int32.toInt_sub, nt_t (by omega), nI_toInt (by omega), nt_t (by omega), Int.bmod_eq_of_le (by omega) (by omega)]
  omega
theorem mf_lo {J : am_I} {s m m' E e : Nat} (h : MF J s m' E e) (hm : m ≤ m') : MF J s m E e := ⟨h.1, h.2.1, h.2.2.1, by
  obtain ⟨x, a, b, c⟩ := h.2.2.2
  exact ⟨x, by omega, b, c⟩⟩
theorem FM_lo {J J' : am_I} {s m m' : Nat} (h : FM s m' J J') (hm : m ≤ m') : FM s m J J' := FM_tr (FM_rf s m J) h hm
theorem at_both {n : Nat} {t : Nat → Nat} (hG : GT n t) (f dC dM : Nat) (hf : 300 < f) (LC LM : am_L) {h E k : Nat} (hk : k ≤ 6) (h1 : 1 ≤ h) (hE : 241 ≤ E) (gc gm : Nat → Int32 → Int32 → Int32 → Int32 → Int32 → am_I → am_L → Option (Int32 × am_I × am_L)) (hsub : k < 6 → RX n t LC LM false h E (k + 1) (fun I => gc 0 (nI (k + 1)) (nI 0) (nI 0) (nI 0) (nI 0) I LC) (fun J => gm 0 (nI 0) (nI 0) (nI 0) (nI 0) (nI 0) J LM)) : RX n t LC LM false h E k (fun I => fX2_readAtom_g f dC gc (nI k) I LC) (fun J => am_b2 (fX12_atom_g f dM gm J LM) (fun I L => some (nI 0, I, L))) := by
  intro I J p c a s m hI hJ hn ha hc hm hs
  have g := hG.1
  have pn : p ≤ n := by rw [← hn]; exact nb_le ha
  have at1 := lc_at hG f dC LC hI pn
  have i3 := hI.2.1
  have dg1 := pc_dg hG f dC hI.1 LC (i := p) (by omega)
  have lk := lm_look hG f dM hf LM hJ ha
  rw [hn] at lk
  have j1 := PM_3 hJ p
  have fj1 : FM s m J (am_up J 0 3 (nI p)) := FM_0 s m J (Or.inl rfl) _
  have l3 := j1.2.1
  have l4 := j1.2.2.1
  have l5 := j1.2.2.2.1
  have dg2 := fun X => pm_dg hG f dM X LM p
  have bad := lm_bad f dM LM j1 rfl
  have mf := mf_bad (E := E) j1 (by omega) (by omega)
  have fbad : FM s m J (am_up (am_up J 0 3 (nI p)) 0 4 (nI p)) := FM_tr fj1 (FM_0 s m _ (Or.inr (Or.inl rfl)) _) (Nat.le_refl _)
  by_cases b0 : bx n t p = 0
  · have z0 : zn (bx n t p) = -nI 1 := by rw [b0]; rfl
    have d0 : dg n t p = false := by unfold dg; rw [b0]; rfl
    rw [z0] at at1 lk dg2
    rw [d0] at dg2
    refine ⟨I, am_up (am_up J 0 3 (nI p)) 0 4 (nI p), nI 0, Or.inr ⟨?_, ?_, p, i3, mf, FC_rf c I, fbad⟩⟩
    · simp (disch := omega) only [fX2_readAtom_g, zz_lt, li_0, li_1, li_2, li_3, li_4, li_5, li_6, li_7, li_8, li_9, li_10, li_11, li_12, li_15, li_16, li_20, li_21, li_24, li_25, li_26, li_32, li_33, li_38, li_40, li_41, li_42, li_43, li_45, li_47, li_48, li_57, li_58, li_59, li_60, li_61, li_62, li_63, li_74, li_75, li_84, li_91, li_93, li_98, li_100, li_103, li_105, li_107, li_109, li_110, li_111, li_112, li_115, li_118, li_119, li_120, li_121, li_124, li_140, li_180, li_206, li_240, li_255, li_420, li_520, li_999, li_1000, li_1771, li_8240, li_9999, li_88200, li_1000000, li_2097151, li_31, nI_add, pk_mul, zz_sub, zz_an, nI_clamp, zz_leT, zz_leF, zz_ltT, zz_ltF, zz_eqF, zz_eqT, zz_m1, zz_m2, zz_m3, zz_m4, zz_m5, zz_m6, zz_ck, zz_bl, zz_b3, zz_b2, zz_shl, zz_bt0, zz_bt1, pk_div, Nat.zero_add, Nat.add_zero, if_true, if_false, reduceIte, Nat.mul_zero, zz_or0, zz_inT, zz_inF, i3, at1]
    · simp (disch := omega) only [fX12_atom_g, fX12_letterOf, zz_lt, li_0, li_1, li_2, li_3, li_4, li_5, li_6, li_7, li_8, li_9, li_10, li_11, li_12, li_15, li_16, li_20, li_21, li_24, li_25, li_26, li_32, li_33, li_38, li_40, li_41, li_42, li_43, li_45, li_47, li_48, li_57, li_58, li_59, li_60, li_61, li_62, li_63, li_74, li_75, li_84, li_91, li_93, li_98, li_100, li_103, li_105, li_107, li_109, li_110, li_111, li_112, li_115, li_118, li_119, li_120, li_121, li_124, li_140, li_180, li_206, li_240, li_255, li_420, li_520, li_999, li_1000, li_1771, li_8240, li_9999, li_88200, li_1000000, li_2097151, li_31, nI_add, pk_mul, zz_sub, zz_an, nI_clamp, zz_leT, zz_leF, zz_ltT, zz_ltF, zz_eqF, zz_eqT, zz_m1, zz_m2, zz_m3, zz_m4, zz_m5, zz_m6, zz_ck, zz_bl, zz_b3, zz_b2, zz_shl, zz_bt0, zz_bt1, pk_div, Nat.zero_add, Nat.add_zero, if_true, if_false, reduceIte, Nat.mul_zero, zz_or0, zz_inT, zz_inF, lk, dg2, Bool.toNat_false, bad]
  · obtain ⟨b, hb⟩ : ∃ b, bx n t p = b + 1 := ⟨bx n t p - 1, by omega⟩
    have b255 : b ≤ 255 := by have := bx_le hG p; omega
    have pln : p < n := bx_in (t := t) (by omega)
    have zb : zn (bx n t p) = nI b := by rw [hb]; unfold zn; rw [if_neg (by omega), Nat.add_sub_cancel]
    by_cases dd : dg n t p = true
    · have r' : ∃ I' J', (fX2_readNumber f dC I LC = some (nI 1, I', LC) ∧ am_b3 (fX12_plainNumber f dM (am_up J 0 3 (nI p)) LM) (fun v I L => am_b2 (fX12_put f dM (nI 0) v I L) (fun I L => some (I, L))) = some (J', LM) ∧ OKx n t false 1 k s p c m I (am_up J 0 3 (nI p)) I' J') ∨ (fX2_readNumber f dC I LC = some (nI 0, I', LC) ∧ am_b3 (fX12_plainNumber f dM (am_up J 0 3 (nI p)) LM) (fun v I L => am_b2 (fX12_put f dM (nI 0) v I L) (fun I L => some (I, L))) = some (J', LM) ∧ ERx s c m 241 I (am_up J 0 3 (nI p)) I' J') := num_both hG f dC dM hf LC LM hI j1 pn dd hc hm hs
      rw [zb] at at1 lk dg2
      rw [dd] at dg1 dg2
      obtain ⟨I', J', r | r⟩ := r'
      · obtain ⟨r1, r2, ops, p', a', o1, o2, o3, o4, o5, o6, o7, o8, o9, o10, o11⟩ := r
        refine ⟨I', J', nI 0, Or.inl ⟨?_, ?_, ops, p', a', EX_up o1 h1, o2, o3, o4, o5, o6, o7, o8, o9, o10, FM_tr fj1 o11 (Nat.le_refl _)⟩⟩
        · simp (disch := omega) only [fX2_readAtom_g, zz_lt, li_0, li_1, li_2, li_3, li_4, li_5, li_6, li_7, li_8, li_9, li_10, li_11, li_12, li_15, li_16, li_20, li_21, li_24, li_25, li_26, li_32, li_33, li_38, li_40, li_41, li_42, li_43, li_45, li_47, li_48, li_57, li_58, li_59, li_60, li_61, li_62, li_63, li_74, li_75, li_84, li_91, li_93, li_98, li_100, li_103, li_105, li_107, li_109, li_110, li_111, li_112, li_115, li_118, li_119, li_120, li_121, li_124, li_140, li_180, li_206, li_240, li_255, li_420, li_520, li_999, li_1000, li_1771, li_8240, li_9999, li_88200, li_1000000, li_2097151, li_31, nI_add, pk_mul, zz_sub, zz_an, nI_clamp, zz_leT, zz_leF, zz_ltT, zz_ltF, zz_eqF, zz_eqT, zz_m1, zz_m2, zz_m3, zz_m4, zz_m5, zz_m6, zz_ck, zz_bl, zz_b3, zz_b2, zz_shl, zz_bt0, zz_bt1, pk_div, Nat.zero_add, Nat.add_zero, if_true, if_false, reduceIte, Nat.mul_zero, zz_or0, zz_inT, zz_inF, i3, at1, dg1, Bool.toNat_true, r1]
        · simp (disch := omega) only [fX12_atom_g, zz_lt, li_0, li_1, li_2, li_3, li_4, li_5, li_6, li_7, li_8, li_9, li_10, li_11, li_12, li_15, li_16, li_20, li_21, li_24, li_25, li_26, li_32, li_33, li_38, li_40, li_41, li_42, li_43, li_45, li_47, li_48, li_57, li_58, li_59, li_60, li_61, li_62, li_63, li_74, li_75, li_84, li_91, li_93, li_98, li_100, li_103, li_105, li_107, li_109, li_110, li_111, li_112, li_115, li_118, li_119, li_120, li_121, li_124, li_140, li_180, li_206, li_240, li_255, li_420, li_520, li_999, li_1000, li_1771, li_8240, li_9999, li_88200, li_1000000, li_2097151, li_31, nI_add, pk_mul, zz_sub, zz_an, nI_clamp, zz_leT, zz_leF, zz_ltT, zz_ltF, zz_eqF, zz_eqT, zz_m1, zz_m2, zz_m3, zz_m4, zz_m5, zz_m6, zz_ck, zz_bl, zz_b3, zz_b2, zz_shl, zz_bt0, zz_bt1, pk_div, Nat.zero_add, Nat.add_zero, if_true, if_false, reduceIte, Nat.mul_zero, zz_or0, zz_inT, zz_inF, lk, dg2, Bool.toNat_true, r2]
      · obtain ⟨r1, r2, e, o1, o2, o3, o4⟩ := r
        refine ⟨I', J', nI 0, Or.inr ⟨?_, ?_, e, o1, ?_, o3, FM_tr fj1 o4 (Nat.le_refl _)⟩⟩
        · simp (disch := omega) only [fX2_readAtom_g, zz_lt, li_0, li_1, li_2, li_3, li_4, li_5, li_6, li_7, li_8, li_9, li_10, li_11, li_12, li_15, li_16, li_20, li_21, li_24, li_25, li_26, li_32, li_33, li_38, li_40, li_41, li_42, li_43, li_45, li_47, li_48, li_57, li_58, li_59, li_60, li_61, li_62, li_63, li_74, li_75, li_84, li_91, li_93, li_98, li_100, li_103, li_105, li_107, li_109, li_110, li_111, li_112, li_115, li_118, li_119, li_120, li_121, li_124, li_140, li_180, li_206, li_240, li_255, li_420, li_520, li_999, li_1000, li_1771, li_8240, li_9999, li_88200, li_1000000, li_2097151, li_31, nI_add, pk_mul, zz_sub, zz_an, nI_clamp, zz_leT, zz_leF, zz_ltT, zz_ltF, zz_eqF, zz_eqT, zz_m1, zz_m2, zz_m3, zz_m4, zz_m5, zz_m6, zz_ck, zz_bl, zz_b3, zz_b2, zz_shl, zz_bt0, zz_bt1, pk_div, Nat.zero_add, Nat.add_zero, if_true, if_false, reduceIte, Nat.mul_zero, zz_or0, zz_inT, zz_inF, i3, at1, dg1, Bool.toNat_true, r1]
        · simp (disch := omega) only [fX12_atom_g, zz_lt, li_0, li_1, li_2, li_3, li_4, li_5, li_6, li_7, li_8, li_9, li_10, li_11, li_12, li_15, li_16, li_20, li_21, li_24, li_25, li_26, li_32, li_33, li_38, li_40, li_41, li_42, li_43, li_45, li_47, li_48, li_57, li_58, li_59, li_60, li_61, li_62, li_63, li_74, li_75, li_84, li_91, li_93, li_98, li_100, li_103, li_105, li_107, li_109, li_110, li_111, li_112, li_115, li_118, li_119, li_120, li_121, li_124, li_140, li_180, li_206, li_240, li_255, li_420, li_520, li_999, li_1000, li_1771, li_8240, li_9999, li_88200, li_1000000, li_2097151, li_31, nI_add, pk_mul, zz_sub, zz_an, nI_clamp, zz_leT, zz_leF, zz_ltT, zz_ltF, zz_eqF, zz_eqT, zz_m1, zz_m2, zz_m3, zz_m4, zz_m5, zz_m6, zz_ck, zz_bl, zz_b3, zz_b2, zz_shl, zz_bt0, zz_bt1, pk_div, Nat.zero_add, Nat.add_zero, if_true, if_false, reduceIte, Nat.mul_zero, zz_or0, zz_inT, zz_inF, lk, dg2, Bool.toNat_true, r2]
        · obtain ⟨y1, y2, y3, m', y4, y5, y6⟩ := o2
          exact ⟨y1, y2, y3, m', y4, by omega, y6⟩
    · have dd' : dg n t p = false := by simpa using dd
      rw [zb] at at1 lk dg2
      rw [dd'] at dg1 dg2
      have lt := fun X => pm_letter f dM X LM (b := b) (by omega)
      have ix := pc_ix6 f dC (by omega) I LC (b := b) (by omega)
      have chb := ch_id (b := b) (by omega)
      by_cases c91 : b = 91
      · subst c91
        have lt' : ∀ X, fX12_letterOf f dM (nI 91) X LM = some (-nI 1, X, LM) := lt
        by_cases k6 : k = 6
        · subst k6
          have u5 : (am_up (am_up J 0 3 (nI p)) 0 4 (nI p)) 0 5 = nI 6 := by rw [up_n (by omega)]; exact l5
          obtain ⟨JB, hJB⟩ : ∃ JB, JB = am_up (am_up J 0 3 (nI p)) 0 4 (nI p) := ⟨_, rfl⟩
          rw [← hJB] at bad mf fbad u5
          have m1 := mf_0 (mf_0 mf (Or.inr rfl) (JB 0 5 + nI 1)) (Or.inl rfl) ((am_up JB 0 5 (JB 0 5 + nI 1)) 0 3 + nI 1)
          have w4 := m1.1
          refine ⟨I, am_up (am_up JB 0 5 (JB 0 5 + nI 1)) 0 3 ((am_up JB 0 5 (JB 0 5 + nI 1)) 0 3 + nI 1), nI 0, Or.inr ⟨?_, ?_, p, i3, m1, FC_rf c I, FM_tr fbad (FM_tr (FM_0 s m JB (Or.inr (Or.inr rfl)) _) (FM_0 s m _ (Or.inl rfl) _) (Nat.le_refl _)) (Nat.le_refl _)⟩⟩
          · simp (disch := omega) only [fX2_readAtom_g, zz_lt, li_0, li_1, li_2, li_3, li_4, li_5, li_6, li_7, li_8, li_9, li_10, li_11, li_12, li_15, li_16, li_20, li_21, li_24, li_25, li_26, li_32, li_33, li_38, li_40, li_41, li_42, li_43, li_45, li_47, li_48, li_57, li_58, li_59, li_60, li_61, li_62, li_63, li_74, li_75, li_84, li_91, li_93, li_98, li_100, li_103, li_105, li_107, li_109, li_110, li_111, li_112, li_115, li_118, li_119, li_120, li_121, li_124, li_140, li_180, li_206, li_240, li_255, li_420, li_520, li_999, li_1000, li_1771, li_8240, li_9999, li_88200, li_1000000, li_2097151, li_31, nI_add, pk_mul, zz_sub, zz_an, nI_clamp, zz_leT, zz_leF, zz_ltT, zz_ltF, zz_eqF, zz_eqT, zz_m1, zz_m2, zz_m3, zz_m4, zz_m5, zz_m6, zz_ck, zz_bl, zz_b3, zz_b2, zz_shl, zz_bt0, zz_bt1, pk_div, Nat.zero_add, Nat.add_zero, if_true, if_false, reduceIte, Nat.mul_zero, zz_or0, zz_inT, zz_inF, i3, at1, dg1, Bool.toNat_false]
          · have op : fX12_opens f dM (am_up J 0 3 (nI p)) LM = some (am_up (am_up JB 0 5 (JB 0 5 + nI 1)) 0 3 ((am_up JB 0 5 (JB 0 5 + nI 1)) 0 3 + nI 1), LM) := by
              unfold fX12_opens
              rw [l5, if_pos (show nI 6 = (6 : Int32) from rfl), bad]
              rfl
            have w4' : ¬ ((am_up (am_up JB 0 5 (JB 0 5 + nI 1)) 0 3 ((am_up JB 0 5 (JB 0 5 + nI 1)) 0 3 + nI 1)) 0 4 = -nI 1) := by
              rw [w4]
              intro z
              have := zz_m1 (a := p) (k := 1) (by omega)
              rw [this] at z
              exact z
            simp (disch := omega) only [fX12_atom_g, zz_lt, li_0, li_1, li_2, li_3, li_4, li_5, li_6, li_7, li_8, li_9, li_10, li_11, li_12, li_15, li_16, li_20, li_21, li_24, li_25, li_26, li_32, li_33, li_38, li_40, li_41, li_42, li_43, li_45, li_47, li_48, li_57, li_58, li_59, li_60, li_61, li_62, li_63, li_74, li_75, li_84, li_91, li_93, li_98, li_100, li_103, li_105, li_107, li_109, li_110, li_111, li_112, li_115, li_118, li_119, li_120, li_121, li_124, li_140, li_180, li_206, li_240, li_255, li_420, li_520, li_999, li_1000, li_1771, li_8240, li_9999, li_88200, li_1000000, li_2097151, li_31, nI_add, pk_mul, zz_sub, zz_an, nI_clamp, zz_leT, zz_leF, zz_ltT, zz_ltF, zz_eqF, zz_eqT, zz_m1, zz_m2, zz_m3, zz_m4, zz_m5, zz_m6, zz_ck, zz_bl, zz_b3, zz_b2, zz_shl, zz_bt0, zz_bt1, pk_div, Nat.zero_add, Nat.add_zero, if_true, if_false, reduceIte, Nat.mul_zero, zz_or0, zz_inT, zz_inF, lk, dg2, Bool.toNat_false, lt', op, w4']
        · have k6' : k < 6 := by omega
          have go := lc_gon hG f dC hf LC hI pln
          have pI := PC_go hI (nb n t (p + 1))
          have op : fX12_opens f dM (am_up J 0 3 (nI p)) LM = some (am_up (am_up (am_up J 0 3 (nI p)) 0 5 (nI (k + 1))) 0 3 (nI (p + 1)), LM) := by
            have u3 : (am_up (am_up J 0 3 (nI p)) 0 5 (nI (k + 1))) 0 3 = nI p := by rw [up_n (by omega)]; exact l3
            simp (disch := omega) only [fX12_opens, fX12_opens_b13, zz_lt, li_0, li_1, li_2, li_3, li_4, li_5, li_6, li_7, li_8, li_9, li_10, li_11, li_12, li_15, li_16, li_20, li_21, li_24, li_25, li_26, li_32, li_33, li_38, li_40, li_41, li_42, li_43, li_45, li_47, li_48, li_57, li_58, li_59, li_60, li_61, li_62, li_63, li_74, li_75, li_84, li_91, li_93, li_98, li_100, li_103, li_105, li_107, li_109, li_110, li_111, li_112, li_115, li_118, li_119, li_120, li_121, li_124, li_140, li_180, li_206, li_240, li_255, li_420, li_520, li_999, li_1000, li_1771, li_8240, li_9999, li_88200, li_1000000, li_2097151, li_31, nI_add, pk_mul, zz_sub, zz_an, nI_clamp, zz_leT, zz_leF, zz_ltT, zz_ltF, zz_eqF, zz_eqT, zz_m1, zz_m2, zz_m3, zz_m4, zz_m5, zz_m6, zz_ck, zz_bl, zz_b3, zz_b2, zz_shl, zz_bt0, zz_bt1, pk_div, Nat.zero_add, Nat.add_zero, if_true, if_false, reduceIte, Nat.mul_zero, zz_or0, zz_inT, zz_inF, l5, u3]
          have pJ : PM n t (am_up (am_up (am_up J 0 3 (nI p)) 0 5 (nI (k + 1))) 0 3 (nI (p + 1))) (p + 1) (-nI 1) (k + 1) s m := by
            refine PM_3 (a := p) ?_ (p + 1)
            exact ⟨TM_k j1.1 (up_n (by omega)) (am_up_ne (by omega)), by rw [up_n (by omega)]; exact j1.2.1, by rw [up_n (by omega)]; exact j1.2.2.1, up_s rfl, by rw [up_n (by omega)]; exact j1.2.2.2.2.1, by rw [am_up_ne (by omega)]; exact j1.2.2.2.2.2⟩
          have fJ : FM s m J (am_up (am_up (am_up J 0 3 (nI p)) 0 5 (nI (k + 1))) 0 3 (nI (p + 1))) := FM_tr fj1 (FM_tr (FM_0 s m _ (Or.inr (Or.inr rfl)) _) (FM_0 s m _ (Or.inl rfl) _) (Nat.le_refl _)) (Nat.le_refl _)
          have w4 := pJ.2.2.1
          have nbp := nb_ge n t (p + 1)
          obtain ⟨I', J', v, r | r⟩ := hsub k6' _ _ (nb n t (p + 1)) c (p + 1) s m pI pJ rfl (by omega) (by omega) (by omega) hs
          · obtain ⟨r1, r2, ops, p', a', o1, o2, o3, o4, o5, o6, o7, o8, o9, o10, o11⟩ := r
            have pn' : p' ≤ n := by rw [← o4]; exact nb_le o5
            obtain ⟨J2, q | q⟩ := cl_both (E := E) hG f dC dM hf LC LM o2 o3 hk o5 o4 (by omega) (ch := 93) (by omega)
            · obtain ⟨q1, q2, q3, q4, q5, q6, q7⟩ := q
              have nbq := nb_ge n t (p' + 1)
              refine ⟨am_up I' 27 3 (nI (nb n t (p' + 1))), J2, nI 0, Or.inl ⟨?_, ?_, ops, nb n t (p' + 1), p' + 1, o1, PC_go o2 _, q4, rfl, by omega, by omega, by rw [am_up_ne (by omega)]; exact o7, by rw [q6]; exact o8, by rw [q7]; exact o9, FC_tr (FC_tr (FC_27 c I 3 _) o10 (Nat.le_refl _)) (FC_27 c I' 3 _) (Nat.le_refl _), FM_tr (FM_tr fJ o11 (Nat.le_refl _)) q5 (by omega)⟩⟩
              · simp (disch := omega) only [fX2_readAtom_g, zz_lt, li_0, li_1, li_2, li_3, li_4, li_5, li_6, li_7, li_8, li_9, li_10, li_11, li_12, li_15, li_16, li_20, li_21, li_24, li_25, li_26, li_32, li_33, li_38, li_40, li_41, li_42, li_43, li_45, li_47, li_48, li_57, li_58, li_59, li_60, li_61, li_62, li_63, li_74, li_75, li_84, li_91, li_93, li_98, li_100, li_103, li_105, li_107, li_109, li_110, li_111, li_112, li_115, li_118, li_119, li_120, li_121, li_124, li_140, li_180, li_206, li_240, li_255, li_420, li_520, li_999, li_1000, li_1771, li_8240, li_9999, li_88200, li_1000000, li_2097151, li_31, nI_add, pk_mul, zz_sub, zz_an, nI_clamp, zz_leT, zz_leF, zz_ltT, zz_ltF, zz_eqF, zz_eqT, zz_m1, zz_m2, zz_m3, zz_m4, zz_m5, zz_m6, zz_ck, zz_bl, zz_b3, zz_b2, zz_shl, zz_bt0, zz_bt1, pk_div, Nat.zero_add, Nat.add_zero, if_true, if_false, reduceIte, Nat.mul_zero, zz_or0, zz_inT, zz_inF, i3, at1, dg1, Bool.toNat_false, go, r1, q1]
              · simp (disch := omega) only [fX12_atom_g, zz_lt, li_0, li_1, li_2, li_3, li_4, li_5, li_6, li_7, li_8, li_9, li_10, li_11, li_12, li_15, li_16, li_20, li_21, li_24, li_25, li_26, li_32, li_33, li_38, li_40, li_41, li_42, li_43, li_45, li_47, li_48, li_57, li_58, li_59, li_60, li_61, li_62, li_63, li_74, li_75, li_84, li_91, li_93, li_98, li_100, li_103, li_105, li_107, li_109, li_110, li_111, li_112, li_115, li_118, li_119, li_120, li_121, li_124, li_140, li_180, li_206, li_240, li_255, li_420, li_520, li_999, li_1000, li_1771, li_8240, li_9999, li_88200, li_1000000, li_2097151, li_31, nI_add, pk_mul, zz_sub, zz_an, nI_clamp, zz_leT, zz_leF, zz_ltT, zz_ltF, zz_eqF, zz_eqT, zz_m1, zz_m2, zz_m3, zz_m4, zz_m5, zz_m6, zz_ck, zz_bl, zz_b3, zz_b2, zz_shl, zz_bt0, zz_bt1, pk_div, Nat.zero_add, Nat.add_zero, if_true, if_false, reduceIte, Nat.mul_zero, zz_or0, zz_inT, zz_inF, lk, dg2, Bool.toNat_false, lt', op, w4, r2, q2]
            · obtain ⟨q1, q2, q3, q4⟩ := q
              refine ⟨I', J2, nI 0, Or.inr ⟨?_, ?_, p', o2.2.1, mf_lo q3 (by omega), FC_tr (FC_27 c I 3 _) o10 (Nat.le_refl _), FM_tr (FM_tr fJ o11 (Nat.le_refl _)) q4 (by omega)⟩⟩
              · simp (disch := omega) only [fX2_readAtom_g, zz_lt, li_0, li_1, li_2, li_3, li_4, li_5, li_6, li_7, li_8, li_9, li_10, li_11, li_12, li_15, li_16, li_20, li_21, li_24, li_25, li_26, li_32, li_33, li_38, li_40, li_41, li_42, li_43, li_45, li_47, li_48, li_57, li_58, li_59, li_60, li_61, li_62, li_63, li_74, li_75, li_84, li_91, li_93, li_98, li_100, li_103, li_105, li_107, li_109, li_110, li_111, li_112, li_115, li_118, li_119, li_120, li_121, li_124, li_140, li_180, li_206, li_240, li_255, li_420, li_520, li_999, li_1000, li_1771, li_8240, li_9999, li_88200, li_1000000, li_2097151, li_31, nI_add, pk_mul, zz_sub, zz_an, nI_clamp, zz_leT, zz_leF, zz_ltT, zz_ltF, zz_eqF, zz_eqT, zz_m1, zz_m2, zz_m3, zz_m4, zz_m5, zz_m6, zz_ck, zz_bl, zz_b3, zz_b2, zz_shl, zz_bt0, zz_bt1, pk_div, Nat.zero_add, Nat.add_zero, if_true, if_false, reduceIte, Nat.mul_zero, zz_or0, zz_inT, zz_inF, i3, at1, dg1, Bool.toNat_false, go, r1, q1]
              · simp (disch := omega) only [fX12_atom_g, zz_lt, li_0, li_1, li_2, li_3, li_4, li_5, li_6, li_7, li_8, li_9, li_10, li_11, li_12, li_15, li_16, li_20, li_21, li_24, li_25, li_26, li_32, li_33, li_38, li_40, li_41, li_42, li_43, li_45, li_47, li_48, li_57, li_58, li_59, li_60, li_61, li_62, li_63, li_74, li_75, li_84, li_91, li_93, li_98, li_100, li_103, li_105, li_107, li_109, li_110, li_111, li_112, li_115, li_118, li_119, li_120, li_121, li_124, li_140, li_180, li_206, li_240, li_255, li_420, li_520, li_999, li_1000, li_1771, li_8240, li_9999, li_88200, li_1000000, li_2097151, li_31, nI_add, pk_mul, zz_sub, zz_an, nI_clamp, zz_leT, zz_leF, zz_ltT, zz_ltF, zz_eqF, zz_eqT, zz_m1, zz_m2, zz_m3, zz_m4, zz_m5, zz_m6, zz_ck, zz_bl, zz_b3, zz_b2, zz_shl, zz_bt0, zz_bt1, pk_div, Nat.zero_add, Nat.add_zero, if_true, if_false, reduceIte, Nat.mul_zero, zz_or0, zz_inT, zz_inF, lk, dg2, Bool.toNat_false, lt', op, w4, r2, q2]
          · obtain ⟨r1, r2, e, o1, o2, o3, o4⟩ := r
            obtain ⟨J2, q1, q2, q3⟩ := cl_err f dM LM o2 (nI 93)
            refine ⟨I', J2, nI 0, Or.inr ⟨?_, ?_, e, o1, q2, FC_tr (FC_27 c I 3 _) o3 (Nat.le_refl _), FM_tr (FM_tr fJ o4 (Nat.le_refl _)) q3 (Nat.le_refl _)⟩⟩
            · simp (disch := omega) only [fX2_readAtom_g, zz_lt, li_0, li_1, li_2, li_3, li_4, li_5, li_6, li_7, li_8, li_9, li_10, li_11, li_12, li_15, li_16, li_20, li_21, li_24, li_25, li_26, li_32, li_33, li_38, li_40, li_41, li_42, li_43, li_45, li_47, li_48, li_57, li_58, li_59, li_60, li_61, li_62, li_63, li_74, li_75, li_84, li_91, li_93, li_98, li_100, li_103, li_105, li_107, li_109, li_110, li_111, li_112, li_115, li_118, li_119, li_120, li_121, li_124, li_140, li_180, li_206, li_240, li_255, li_420, li_520, li_999, li_1000, li_1771, li_8240, li_9999, li_88200, li_1000000, li_2097151, li_31, nI_add, pk_mul, zz_sub, zz_an, nI_clamp, zz_leT, zz_leF, zz_ltT, zz_ltF, zz_eqF, zz_eqT, zz_m1, zz_m2, zz_m3, zz_m4, zz_m5, zz_m6, zz_ck, zz_bl, zz_b3, zz_b2, zz_shl, zz_bt0, zz_bt1, pk_div, Nat.zero_add, Nat.add_zero, if_true, if_false, reduceIte, Nat.mul_zero, zz_or0, zz_inT, zz_inF, i3, at1, dg1, Bool.toNat_false, go, r1]
            · simp (disch := omega) only [fX12_atom_g, zz_lt, li_0, li_1, li_2, li_3, li_4, li_5, li_6, li_7, li_8, li_9, li_10, li_11, li_12, li_15, li_16, li_20, li_21, li_24, li_25, li_26, li_32, li_33, li_38, li_40, li_41, li_42, li_43, li_45, li_47, li_48, li_57, li_58, li_59, li_60, li_61, li_62, li_63, li_74, li_75, li_84, li_91, li_93, li_98, li_100, li_103, li_105, li_107, li_109, li_110, li_111, li_112, li_115, li_118, li_119, li_120, li_121, li_124, li_140, li_180, li_206, li_240, li_255, li_420, li_520, li_999, li_1000, li_1771, li_8240, li_9999, li_88200, li_1000000, li_2097151, li_31, nI_add, pk_mul, zz_sub, zz_an, nI_clamp, zz_leT, zz_leF, zz_ltT, zz_ltF, zz_eqF, zz_eqT, zz_m1, zz_m2, zz_m3, zz_m4, zz_m5, zz_m6, zz_ck, zz_bl, zz_b3, zz_b2, zz_shl, zz_bt0, zz_bt1, pk_div, Nat.zero_add, Nat.add_zero, if_true, if_false, reduceIte, Nat.mul_zero, zz_or0, zz_inT, zz_inF, lk, dg2, Bool.toNat_false, lt', op, w4, r2, q1]
      · by_cases z0 : io6 b = 0
        · rw [z0] at ix lt
          have zz : zn 0 = -nI 1 := rfl
          rw [zz] at ix lt
          refine ⟨I, am_up (am_up J 0 3 (nI p)) 0 4 (nI p), nI 0, Or.inr ⟨?_, ?_, p, i3, mf, FC_rf c I, fbad⟩⟩
          · simp (disch := omega) only [fX2_readAtom_g, zz_lt, li_0, li_1, li_2, li_3, li_4, li_5, li_6, li_7, li_8, li_9, li_10, li_11, li_12, li_15, li_16, li_20, li_21, li_24, li_25, li_26, li_32, li_33, li_38, li_40, li_41, li_42, li_43, li_45, li_47, li_48, li_57, li_58, li_59, li_60, li_61, li_62, li_63, li_74, li_75, li_84, li_91, li_93, li_98, li_100, li_103, li_105, li_107, li_109, li_110, li_111, li_112, li_115, li_118, li_119, li_120, li_121, li_124, li_140, li_180, li_206, li_240, li_255, li_420, li_520, li_999, li_1000, li_1771, li_8240, li_9999, li_88200, li_1000000, li_2097151, li_31, nI_add, pk_mul, zz_sub, zz_an, nI_clamp, zz_leT, zz_leF, zz_ltT, zz_ltF, zz_eqF, zz_eqT, zz_m1, zz_m2, zz_m3, zz_m4, zz_m5, zz_m6, zz_ck, zz_bl, zz_b3, zz_b2, zz_shl, zz_bt0, zz_bt1, pk_div, Nat.zero_add, Nat.add_zero, if_true, if_false, reduceIte, Nat.mul_zero, zz_or0, zz_inT, zz_inF, i3, at1, dg1, Bool.toNat_false, chb, ix]
          · simp (disch := omega) only [fX12_atom_g, zz_lt, li_0, li_1, li_2, li_3, li_4, li_5, li_6, li_7, li_8, li_9, li_10, li_11, li_12, li_15, li_16, li_20, li_21, li_24, li_25, li_26, li_32, li_33, li_38, li_40, li_41, li_42, li_43, li_45, li_47, li_48, li_57, li_58, li_59, li_60, li_61, li_62, li_63, li_74, li_75, li_84, li_91, li_93, li_98, li_100, li_103, li_105, li_107, li_109, li_110, li_111, li_112, li_115, li_118, li_119, li_120, li_121, li_124, li_140, li_180, li_206, li_240, li_255, li_420, li_520, li_999, li_1000, li_1771, li_8240, li_9999, li_88200, li_1000000, li_2097151, li_31, nI_add, pk_mul, zz_sub, zz_an, nI_clamp, zz_leT, zz_leF, zz_ltT, zz_ltF, zz_eqF, zz_eqT, zz_m1, zz_m2, zz_m3, zz_m4, zz_m5, zz_m6, zz_ck, zz_bl, zz_b3, zz_b2, zz_shl, zz_bt0, zz_bt1, pk_div, Nat.zero_add, Nat.add_zero, if_true, if_false, reduceIte, Nat.mul_zero, zz_or0, zz_inT, zz_inF, lk, dg2, Bool.toNat_false, lt, bad]
        · obtain ⟨z, hz⟩ : ∃ z, io6 b = z + 1 := ⟨io6 b - 1, by omega⟩
          have z6 : z < 6 := by have := io6_le b; omega
          have zz : zn (io6 b) = nI z := by rw [hz]; unfold zn; rw [if_neg (by omega), Nat.add_sub_cancel]
          rw [zz] at ix lt
          have pu := lc_put f dC LC hI (by omega) (-nI (z + 1))
          have pP := PC_put hI (-nI (z + 1))
          have go := lc_gon hG f dC hf LC pP pln
          have pJ := PM_3 j1 (p + 1)
          have pt := lm_put f dM LM pJ.2.2.2.2.1 pJ.2.2.2.2.2 hs (by omega) (nI 1) (nI z)
          have pQ := PM_put pJ (nI 1) (nI z)
          have e1 : cw (10000 + z) = -nI (z + 1) := by unfold cw; rw [if_neg (by omega), if_pos (by omega), Nat.add_sub_cancel_left, Nat.mod_eq_of_lt z6]
          have e2 : mk (10000 + z) = nI 1 := by unfold mk; rw [if_neg (by omega), if_pos (by omega)]
          have e3 : mv (10000 + z) = nI z := by unfold mv; rw [if_neg (by omega), if_pos (by omega), Nat.add_sub_cancel_left]
          have nbp := nb_ge n t (p + 1)
          refine ⟨am_up (am_up (am_up I 28 c (-nI (z + 1))) 27 2 (nI (c + 1))) 27 3 (nI (nb n t (p + 1))), am_up (am_up (am_up (am_up (am_up J 0 3 (nI p)) 0 3 (nI (p + 1))) 2 (520 * s + m) (nI 1)) 3 (520 * s + m) (nI z)) 4 s (nI (m + 1)), nI 0, Or.inl ⟨?_, ?_, [10000 + z], nb n t (p + 1), p + 1, EX_up (EX_let z6) h1, PC_go pP _, pQ, rfl, by omega, by show p + 1 ≤ _; omega, ⟨?_, trivial⟩, ⟨?_, trivial⟩, ⟨?_, trivial⟩, FC_tr (FC_put I c _ _) (FC_27 c _ 3 _) (Nat.le_refl _), FM_tr (FM_tr fj1 (FM_0 s m _ (Or.inl rfl) _) (Nat.le_refl _)) (FM_put _ s m (nI 1) (nI z) (nI (m + 1))) (Nat.le_refl _)⟩⟩
          · simp (disch := omega) only [fX2_readAtom_g, zz_lt, li_0, li_1, li_2, li_3, li_4, li_5, li_6, li_7, li_8, li_9, li_10, li_11, li_12, li_15, li_16, li_20, li_21, li_24, li_25, li_26, li_32, li_33, li_38, li_40, li_41, li_42, li_43, li_45, li_47, li_48, li_57, li_58, li_59, li_60, li_61, li_62, li_63, li_74, li_75, li_84, li_91, li_93, li_98, li_100, li_103, li_105, li_107, li_109, li_110, li_111, li_112, li_115, li_118, li_119, li_120, li_121, li_124, li_140, li_180, li_206, li_240, li_255, li_420, li_520, li_999, li_1000, li_1771, li_8240, li_9999, li_88200, li_1000000, li_2097151, li_31, nI_add, pk_mul, zz_sub, zz_an, nI_clamp, zz_leT, zz_leF, zz_ltT, zz_ltF, zz_eqF, zz_eqT, zz_m1, zz_m2, zz_m3, zz_m4, zz_m5, zz_m6, zz_ck, zz_bl, zz_b3, zz_b2, zz_shl, zz_bt0, zz_bt1, pk_div, Nat.zero_add, Nat.add_zero, if_true, if_false, reduceIte, Nat.mul_zero, zz_or0, zz_inT, zz_inF, i3, at1, dg1, Bool.toNat_false, chb, ix, nn_s1, pu, go]
          · simp (disch := omega) only [fX12_atom_g, zz_lt, li_0, li_1, li_2, li_3, li_4, li_5, li_6, li_7, li_8, li_9, li_10, li_11, li_12, li_15, li_16, li_20, li_21, li_24, li_25, li_26, li_32, li_33, li_38, li_40, li_41, li_42, li_43, li_45, li_47, li_48, li_57, li_58, li_59, li_60, li_61, li_62, li_63, li_74, li_75, li_84, li_91, li_93, li_98, li_100, li_103, li_105, li_107, li_109, li_110, li_111, li_112, li_115, li_118, li_119, li_120, li_121, li_124, li_140, li_180, li_206, li_240, li_255, li_420, li_520, li_999, li_1000, li_1771, li_8240, li_9999, li_88200, li_1000000, li_2097151, li_31, nI_add, pk_mul, zz_sub, zz_an, nI_clamp, zz_leT, zz_leF, zz_ltT, zz_ltF, zz_eqF, zz_eqT, zz_m1, zz_m2, zz_m3, zz_m4, zz_m5, zz_m6, zz_ck, zz_bl, zz_b3, zz_b2, zz_shl, zz_bt0, zz_bt1, pk_div, Nat.zero_add, Nat.add_zero, if_true, if_false, reduceIte, Nat.mul_zero, zz_or0, zz_inT, zz_inF, lk, dg2, Bool.toNat_false, lt, l3, pt]
          · rw [am_up_ne (by omega), am_up_ne (by omega), up_s rfl, e1]
          · rw [am_up_ne (by omega), am_up_ne (by omega), up_s rfl, e2]
          · rw [am_up_ne (by omega), up_s rfl, e3]
