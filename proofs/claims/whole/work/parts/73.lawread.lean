/-! PURE: a law's text read whole; fault and text. -/
theorem mln_le : ∀ cl : List (List Nat × List Nat), mln cl ≤ cln cl
  | [] => Nat.le_refl _
  | p :: r => by
    have ih := mln_le r
    show p.1.length + p.2.length + mln r ≤ (if p.1 = [] then 0 else p.1.length + 1) + p.2.length + 1 + cln r
    by_cases c : p.1 = []
    · rw [if_pos c, c]; show 0 + p.2.length + mln r ≤ _; omega
    · rw [if_neg c]; omega
theorem cln_1 (x : List Nat × List Nat) : 1 ≤ cln [x] := by
  show 1 ≤ (if x.1 = [] then 0 else x.1.length + 1) + x.2.length + 1 + 0
  omega
def FW (I I' : am_I) : Prop := ∀ k, k ≠ 27 → k ≠ 28 → I' k = I k
/-- where a reading stands, the clauses cl behind it -/
def LSt (n : Nat) (t : Nat → Nat) (s : Nat) (I0 J0 I J : am_I) (cl : List (List Nat × List Nat)) (p a : Nat) : Prop := PC n t I p (cln cl) ∧ PM n t J a (-nI 1) 0 s (mln cl) ∧ nb n t a = p ∧ a ≤ n ∧ cln cl ≤ p ∧ 2 * cl.length ≤ p ∧ WC cl ∧ CC (I 28) 0 cl ∧ MC J s 0 0 cl ∧ J 5 s = nI cl.length ∧ FW I0 I ∧ FK s 0 0 J0 J
def RDo (s : Nat) (LC LM : am_L) (I0 J0 : am_I) (rc rm : Option (Int32 × am_I × am_L)) : Prop := ∃ I' J', FW I0 I' ∧ FK s 0 0 J0 J' ∧ ((rc = some (-nI 1, I', LC) ∧ rm = some (-nI 1, J', LM) ∧ ∃ cl, WC cl ∧ cln cl ≤ 240 ∧ mln cl ≤ 240 ∧ cl.length ≤ 140 ∧ I' 27 2 = nI (cln cl) ∧ CC (I' 28) 0 cl ∧ J' 5 s = nI cl.length ∧ MC J' s 0 0 cl) ∨ ∃ e, e ≤ 240 ∧ rc = some (nI e, I', LC) ∧ rm = some (nI e, J', LM))
theorem FK_wk {s m j : Nat} {J J' : am_I} (h : FK s m j J J') : FK s 0 0 J J' := FK_tr (FK_rf s 0 0 J) h (by omega) (by omega)
theorem rd_L {n : Nat} {t : Nat → Nat} (hG : GT n t) (f dC dM : Nat) (hf : 300 < f) (hC : 40 ≤ dC) (hM : 40 ≤ dM) (LC LM : am_L) {I0 J0 : am_I} {s : Nat} (hs : s ≤ 4) : ∀ (F i F' : Nat) (I J : am_I) (cl : List (List Nat × List Nat)) (p a : Nat), LSt n t s I0 J0 I J cl p a → i ≤ p → n - p < F → n - p < F' → RDo s LC LM I0 J0 (fX2_read_b19 f dC F (nI i) I LC) (am_b2 (fX12_clause f dM J LM) (fun I L => fX12_readLaw_b9 f dM F' I L))
  | 0, _, _, _, _, _, _, _, _, _, z, _ => by omega
  | _, _, 0, _, _, _, _, _, _, _, _, z => by omega
  | F + 1, i, F' + 1, I, J, cl, p, a, w, hi, f1, f2 => by
    have g := hG.1
    obtain ⟨e1, e2, e3, e4, e5, e6, e7, e8, e9, e10, e11, e12⟩ := w
    have pn : p ≤ n := by rw [← e3]; exact nb_le e4
    have ml := mln_le cl
    obtain ⟨I1, J1, r | r⟩ := cls_both hG f dC dM hf hC hM LC LM e1 e2 e3 e4 e10 hs (by omega) e5 (by omega)
    · obtain ⟨r1, r2, x, p1, a1, x1, x2, x3, x4, x5, x6, x7, x8, x9, x10, x11⟩ := r
      have p1n : p1 ≤ n := by rw [← x4]; exact nb_le x5
      have c1 := cln_1 x
      have i3 := x2.2.1
      have i11 := x2.1.1
      have h4 := x3.2.2.1
      have lk := lm_look hG f dM hf LM x3 x5
      rw [x4] at lk
      have lkP := PM_3 x3 p1
      have l4 := lkP.2.2.1
      have l3 := lkP.2.1
      have lk2 := lm_look hG f dM hf LM lkP p1n
      rw [show nb n t p1 = p1 by rw [← x4]; exact nb_id x5, up_up] at lk2
      have fw1 : FW I0 I1 := fun k a b => (x10.1 k a b).trans (e11 k a b)
      have fk1 : FK s 0 0 J0 J1 := FK_tr e12 (FK_wk x11) (Nat.le_refl _) (Nat.le_refl _)
      have cA : cln (cl ++ [x]) = cln cl + cln [x] := cln_app cl [x]
      have mA : mln (cl ++ [x]) = mln cl + mln [x] := mln_app cl [x]
      have lA : (cl ++ [x]).length = cl.length + 1 := by simp only [List.length_append, List.length_cons, List.length_nil]
      have wA := WC_app cl [x] e7 x1
      have ccA : CC (I1 28) 0 (cl ++ [x]) := CC_app cl [x] 0 (CC_k (fun y hy => x10.2 y hy) cl 0 (by omega) e8) (by rw [Nat.zero_add]; exact x7)
      have mcA : MC J1 s 0 0 (cl ++ [x]) := MC_app cl [x] 0 0 (MC_k x11 cl 0 0 (by omega) (by omega) e9) (by rw [Nat.zero_add, Nat.zero_add]; exact x8)
      have mlA := mln_le (cl ++ [x])
      by_cases pe : p1 < n
      · have tk := lc_takes hG f dC hf LC x2 p1n (ch := 59) (by omega)
        by_cases q : bx n t p1 = 60
        · rw [if_pos q] at tk
          have zb : zn (bx n t p1) = nI 59 := by rw [q]; rfl
          rw [zb] at lk
          have nbp := nb_ge n t (p1 + 1)
          have I2 := PC_go x2 (nb n t (p1 + 1))
          have J2 := PM_3 lkP (p1 + 1)
          have ih := rd_L hG f dC dM hf hC hM LC LM (I0 := I0) (J0 := J0) hs F (i + 1) F' (am_up I1 27 3 (nI (nb n t (p1 + 1)))) (am_up (am_up J1 0 3 (nI p1)) 0 3 (nI (p1 + 1))) (cl ++ [x]) (nb n t (p1 + 1)) (p1 + 1) ⟨by rw [cA]; exact I2, by rw [mA]; exact J2, rfl, by omega, by omega, by omega, wA, by rw [am_up_ne (by omega)]; exact ccA, MC_k (m := mln (cl ++ [x])) (j := (cl ++ [x]).length) (FK_FM _ (FM_tr (FM_0 s _ J1 (Or.inl rfl) _) (FM_0 s _ _ (Or.inl rfl) _) (Nat.le_refl _))) (cl ++ [x]) 0 0 (by omega) (by omega) mcA, by rw [up5 (by omega), up5 (by omega), lA]; exact x9, fun k a b => (am_up_ne a).trans (fw1 k a b), FK_tr fk1 (FK_FM 0 (FM_tr (FM_0 s 0 J1 (Or.inl rfl) _) (FM_0 s 0 _ (Or.inl rfl) _) (Nat.le_refl _))) (Nat.le_refl _) (Nat.le_refl _)⟩ (by omega) (by omega) (by omega)
          have y1 : fX2_read_b19 f dC (F + 1) (nI i) I LC = fX2_read_b19 f dC F (nI (i + 1)) (am_up I1 27 3 (nI (nb n t (p1 + 1)))) LC := by
            simp (disch := omega) only [fX2_read_b19, fX2_read_b19w, zz_lt, li_0, li_1, li_2, li_3, li_4, li_5, li_6, li_7, li_8, li_9, li_10, li_11, li_12, li_15, li_16, li_20, li_21, li_24, li_25, li_26, li_32, li_33, li_38, li_40, li_41, li_42, li_43, li_45, li_47, li_48, li_57, li_58, li_59, li_60, li_61, li_62, li_63, li_74, li_75, li_84, li_91, li_93, li_98, li_100, li_103, li_105, li_107, li_109, li_110, li_111, li_112, li_115, li_118, li_119, li_120, li_121, li_124, li_140, li_180, li_206, li_240, li_255, li_420, li_520, li_999, li_1000, li_1771, li_8240, li_9999, li_88200, li_1000000, li_2097151, li_31, nI_add, pk_mul, zz_sub, zz_an, nI_clamp, zz_leT, zz_leF, zz_ltT, zz_ltF, zz_eqF, zz_eqT, zz_m1, zz_m2, zz_m3, zz_m4, zz_m5, zz_m6, zz_ck, zz_bl, zz_b3, zz_b2, zz_shl, zz_bt0, zz_bt1, pk_div, Nat.zero_add, Nat.add_zero, if_true, if_false, reduceIte, Nat.mul_zero, zz_or0, zz_inT, zz_inF, r1, i3, i11, tk]
          have y2 : am_b2 (fX12_clause f dM J LM) (fun I L => fX12_readLaw_b9 f dM (F' + 1) I L) = am_b2 (fX12_clause f dM (am_up (am_up J1 0 3 (nI p1)) 0 3 (nI (p1 + 1))) LM) (fun I L => fX12_readLaw_b9 f dM F' I L) := by
            rw [r2, zz_b2]
            simp (disch := omega) only [fX12_readLaw_b9, fX12_readLaw_b9w, zz_lt, li_0, li_1, li_2, li_3, li_4, li_5, li_6, li_7, li_8, li_9, li_10, li_11, li_12, li_15, li_16, li_20, li_21, li_24, li_25, li_26, li_32, li_33, li_38, li_40, li_41, li_42, li_43, li_45, li_47, li_48, li_57, li_58, li_59, li_60, li_61, li_62, li_63, li_74, li_75, li_84, li_91, li_93, li_98, li_100, li_103, li_105, li_107, li_109, li_110, li_111, li_112, li_115, li_118, li_119, li_120, li_121, li_124, li_140, li_180, li_206, li_240, li_255, li_420, li_520, li_999, li_1000, li_1771, li_8240, li_9999, li_88200, li_1000000, li_2097151, li_31, nI_add, pk_mul, zz_sub, zz_an, nI_clamp, zz_leT, zz_leF, zz_ltT, zz_ltF, zz_eqF, zz_eqT, zz_m1, zz_m2, zz_m3, zz_m4, zz_m5, zz_m6, zz_ck, zz_bl, zz_b3, zz_b2, zz_shl, zz_bt0, zz_bt1, pk_div, Nat.zero_add, Nat.add_zero, if_true, if_false, reduceIte, Nat.mul_zero, zz_or0, zz_inT, zz_inF, h4, lk, l3]
          rw [y1, y2]
          exact ih
        · rw [if_neg q] at tk
          have n1 : (zn (bx n t p1) = nI 59) = False := (zn_ch (bx_le hG p1) (by omega)).trans (eq_false q)
          have b0 : bx n t p1 ≠ 0 := by rw [bx_lt pe]; omega
          have bl := bx_le hG p1
          have n2 : (zn (bx n t p1) = -nI 1) = False := by unfold zn; rw [if_neg b0]; exact zz_m1 (by omega)
          have bad := lm_bad f dM LM lkP rfl
          have u4 : (am_up (am_up J1 0 3 (nI p1)) 0 4 (nI p1)) 0 4 = nI p1 := up_s rfl
          refine ⟨I1, am_up (am_up J1 0 3 (nI p1)) 0 4 (nI p1), fw1, FK_tr fk1 (FK_FM 0 (FM_tr (FM_0 s 0 J1 (Or.inl rfl) _) (FM_0 s 0 _ (Or.inr (Or.inl rfl)) _) (Nat.le_refl _))) (Nat.le_refl _) (Nat.le_refl _), Or.inr ⟨p1, by omega, ?_, ?_⟩⟩
          · simp (disch := omega) only [fX2_read_b19, fX2_read_b19w, zz_lt, li_0, li_1, li_2, li_3, li_4, li_5, li_6, li_7, li_8, li_9, li_10, li_11, li_12, li_15, li_16, li_20, li_21, li_24, li_25, li_26, li_32, li_33, li_38, li_40, li_41, li_42, li_43, li_45, li_47, li_48, li_57, li_58, li_59, li_60, li_61, li_62, li_63, li_74, li_75, li_84, li_91, li_93, li_98, li_100, li_103, li_105, li_107, li_109, li_110, li_111, li_112, li_115, li_118, li_119, li_120, li_121, li_124, li_140, li_180, li_206, li_240, li_255, li_420, li_520, li_999, li_1000, li_1771, li_8240, li_9999, li_88200, li_1000000, li_2097151, li_31, nI_add, pk_mul, zz_sub, zz_an, nI_clamp, zz_leT, zz_leF, zz_ltT, zz_ltF, zz_eqF, zz_eqT, zz_m1, zz_m2, zz_m3, zz_m4, zz_m5, zz_m6, zz_ck, zz_bl, zz_b3, zz_b2, zz_shl, zz_bt0, zz_bt1, pk_div, Nat.zero_add, Nat.add_zero, if_true, if_false, reduceIte, Nat.mul_zero, zz_or0, zz_inT, zz_inF, r1, i3, i11, tk]
          · rw [r2, zz_b2]
            simp (disch := omega) only [fX12_readLaw_b9, fX12_readLaw_b9w, fX12_readLaw_b43, fX12_atEnd, fX12_atEnd_b20, zz_lt, li_0, li_1, li_2, li_3, li_4, li_5, li_6, li_7, li_8, li_9, li_10, li_11, li_12, li_15, li_16, li_20, li_21, li_24, li_25, li_26, li_32, li_33, li_38, li_40, li_41, li_42, li_43, li_45, li_47, li_48, li_57, li_58, li_59, li_60, li_61, li_62, li_63, li_74, li_75, li_84, li_91, li_93, li_98, li_100, li_103, li_105, li_107, li_109, li_110, li_111, li_112, li_115, li_118, li_119, li_120, li_121, li_124, li_140, li_180, li_206, li_240, li_255, li_420, li_520, li_999, li_1000, li_1771, li_8240, li_9999, li_88200, li_1000000, li_2097151, li_31, nI_add, pk_mul, zz_sub, zz_an, nI_clamp, zz_leT, zz_leF, zz_ltT, zz_ltF, zz_eqF, zz_eqT, zz_m1, zz_m2, zz_m3, zz_m4, zz_m5, zz_m6, zz_ck, zz_bl, zz_b3, zz_b2, zz_shl, zz_bt0, zz_bt1, pk_div, Nat.zero_add, Nat.add_zero, if_true, if_false, reduceIte, Nat.mul_zero, zz_or0, zz_inT, zz_inF, h4, lk, n1, l4, lk2, n2, bad, u4]
      · have pe' : p1 = n := by omega
        have zb : zn (bx n t p1) = -nI 1 := by rw [pe', bx_ge (Nat.le_refl _)]; rfl
        rw [zb] at lk lk2
        refine ⟨I1, am_up J1 0 3 (nI p1), fw1, FK_tr fk1 (FK_FM 0 (FM_0 s 0 J1 (Or.inl rfl) _)) (Nat.le_refl _) (Nat.le_refl _), Or.inl ⟨?_, ?_, cl ++ [x], wA, by omega, by omega, by omega, by rw [cA]; exact x2.2.2, ccA, ?_, MC_k (m := mln (cl ++ [x])) (j := (cl ++ [x]).length) (FK_FM _ (FM_0 s _ J1 (Or.inl rfl) _)) (cl ++ [x]) 0 0 (by omega) (by omega) mcA⟩⟩
        · simp (disch := omega) only [fX2_read_b19, fX2_read_b19w, zz_lt, li_0, li_1, li_2, li_3, li_4, li_5, li_6, li_7, li_8, li_9, li_10, li_11, li_12, li_15, li_16, li_20, li_21, li_24, li_25, li_26, li_32, li_33, li_38, li_40, li_41, li_42, li_43, li_45, li_47, li_48, li_57, li_58, li_59, li_60, li_61, li_62, li_63, li_74, li_75, li_84, li_91, li_93, li_98, li_100, li_103, li_105, li_107, li_109, li_110, li_111, li_112, li_115, li_118, li_119, li_120, li_121, li_124, li_140, li_180, li_206, li_240, li_255, li_420, li_520, li_999, li_1000, li_1771, li_8240, li_9999, li_88200, li_1000000, li_2097151, li_31, nI_add, pk_mul, zz_sub, zz_an, nI_clamp, zz_leT, zz_leF, zz_ltT, zz_ltF, zz_eqF, zz_eqT, zz_m1, zz_m2, zz_m3, zz_m4, zz_m5, zz_m6, zz_ck, zz_bl, zz_b3, zz_b2, zz_shl, zz_bt0, zz_bt1, pk_div, Nat.zero_add, Nat.add_zero, if_true, if_false, reduceIte, Nat.mul_zero, zz_or0, zz_inT, zz_inF, r1, i3, i11]
        · rw [r2, zz_b2]
          simp (disch := omega) only [fX12_readLaw_b9, fX12_readLaw_b9w, fX12_readLaw_b43, fX12_atEnd, fX12_atEnd_b20, zz_lt, li_0, li_1, li_2, li_3, li_4, li_5, li_6, li_7, li_8, li_9, li_10, li_11, li_12, li_15, li_16, li_20, li_21, li_24, li_25, li_26, li_32, li_33, li_38, li_40, li_41, li_42, li_43, li_45, li_47, li_48, li_57, li_58, li_59, li_60, li_61, li_62, li_63, li_74, li_75, li_84, li_91, li_93, li_98, li_100, li_103, li_105, li_107, li_109, li_110, li_111, li_112, li_115, li_118, li_119, li_120, li_121, li_124, li_140, li_180, li_206, li_240, li_255, li_420, li_520, li_999, li_1000, li_1771, li_8240, li_9999, li_88200, li_1000000, li_2097151, li_31, nI_add, pk_mul, zz_sub, zz_an, nI_clamp, zz_leT, zz_leF, zz_ltT, zz_ltF, zz_eqF, zz_eqT, zz_m1, zz_m2, zz_m3, zz_m4, zz_m5, zz_m6, zz_ck, zz_bl, zz_b3, zz_b2, zz_shl, zz_bt0, zz_bt1, pk_div, Nat.zero_add, Nat.add_zero, if_true, if_false, reduceIte, Nat.mul_zero, zz_or0, zz_inT, zz_inF, h4, lk, l4, lk2]
        · rw [up5 (by omega), lA]; exact x9
    · obtain ⟨r1, r2, e, x1, x2, x3, x4, x5⟩ := r
      refine ⟨I1, J1, fun k a b => (x4 k a b).trans (e11 k a b), FK_tr e12 (FK_wk x5) (Nat.le_refl _) (Nat.le_refl _), Or.inr ⟨e, x1, ?_, ?_⟩⟩
      · simp (disch := omega) only [fX2_read_b19, fX2_read_b19w, zz_lt, li_0, li_1, li_2, li_3, li_4, li_5, li_6, li_7, li_8, li_9, li_10, li_11, li_12, li_15, li_16, li_20, li_21, li_24, li_25, li_26, li_32, li_33, li_38, li_40, li_41, li_42, li_43, li_45, li_47, li_48, li_57, li_58, li_59, li_60, li_61, li_62, li_63, li_74, li_75, li_84, li_91, li_93, li_98, li_100, li_103, li_105, li_107, li_109, li_110, li_111, li_112, li_115, li_118, li_119, li_120, li_121, li_124, li_140, li_180, li_206, li_240, li_255, li_420, li_520, li_999, li_1000, li_1771, li_8240, li_9999, li_88200, li_1000000, li_2097151, li_31, nI_add, pk_mul, zz_sub, zz_an, nI_clamp, zz_leT, zz_leF, zz_ltT, zz_ltF, zz_eqF, zz_eqT, zz_m1, zz_m2, zz_m3, zz_m4, zz_m5, zz_m6, zz_ck, zz_bl, zz_b3, zz_b2, zz_shl, zz_bt0, zz_bt1, pk_div, Nat.zero_add, Nat.add_zero, if_true, if_false, reduceIte, Nat.mul_zero, zz_or0, zz_inT, zz_inF, r1, x2]
      · rw [r2, zz_b2]
        simp (disch := omega) only [fX12_readLaw_b9, fX12_readLaw_b9w, fX12_readLaw_b43, fX12_atEnd, fX12_atEnd_b20, zz_lt, li_0, li_1, li_2, li_3, li_4, li_5, li_6, li_7, li_8, li_9, li_10, li_11, li_12, li_15, li_16, li_20, li_21, li_24, li_25, li_26, li_32, li_33, li_38, li_40, li_41, li_42, li_43, li_45, li_47, li_48, li_57, li_58, li_59, li_60, li_61, li_62, li_63, li_74, li_75, li_84, li_91, li_93, li_98, li_100, li_103, li_105, li_107, li_109, li_110, li_111, li_112, li_115, li_118, li_119, li_120, li_121, li_124, li_140, li_180, li_206, li_240, li_255, li_420, li_520, li_999, li_1000, li_1771, li_8240, li_9999, li_88200, li_1000000, li_2097151, li_31, nI_add, pk_mul, zz_sub, zz_an, nI_clamp, zz_leT, zz_leF, zz_ltT, zz_ltF, zz_eqF, zz_eqT, zz_m1, zz_m2, zz_m3, zz_m4, zz_m5, zz_m6, zz_ck, zz_bl, zz_b3, zz_b2, zz_shl, zz_bt0, zz_bt1, pk_div, Nat.zero_add, Nat.add_zero, if_true, if_false, reduceIte, Nat.mul_zero, zz_or0, zz_inT, zz_inF, x3]
/-- what reading a law may change -/
def s27 (k : Nat) (_ : Nat) : Bool := k == 27 || k == 28
def sR (s : Nat) (k j : Nat) : Bool := match k with
  | 0 => j == 3 || j == 4 || j == 5 || j == 14
  | 2 => decide (520 * s ≤ j) | 3 => decide (520 * s ≤ j) | 4 => decide (j = s) | 5 => decide (j = s)
  | 6 => decide (140 * s ≤ j) | 7 => decide (140 * s ≤ j) | 8 => decide (140 * s ≤ j)
  | _ => false
theorem FW_27 {I I' : am_I} (h : FW I I') : am_ag s27 I I' := fun k j e => by
  unfold s27 at e
  have e' : ¬ k = 27 ∧ ¬ k = 28 := by simpa using e
  rw [h k e'.1 e'.2]
theorem FK_R {s : Nat} {J J' : am_I} (h : FK s 0 0 J J') : am_ag (sR s) J J' := fun k j e => by
  match k, e with
  | 0, e =>
    have e' : ((j == 3 || j == 4) || j == 5 || j == 14) = false := by simpa [sR] using e
    have e2 : ((¬ j = 3 ∧ ¬ j = 4) ∧ ¬ j = 5) ∧ ¬ j = 14 := by simpa using e'
    exact h.2.1 j e2.1.1.1 e2.1.1.2 e2.1.2
  | 1, _ => rw [h.1 1 (by omega) (by omega)]
  | 2, e => exact h.2.2.1 j (by have := of_decide_eq_false e; omega)
  | 3, e => exact h.2.2.2.1 j (by have := of_decide_eq_false e; omega)
  | 4, e => exact h.2.2.2.2.1 j (of_decide_eq_false e)
  | 5, e => exact h.2.2.2.2.2.1 j (of_decide_eq_false e)
  | 6, e => exact h.2.2.2.2.2.2 6 j (by omega) (by omega) (by have := of_decide_eq_false e; omega)
  | 7, e => exact h.2.2.2.2.2.2 7 j (by omega) (by omega) (by have := of_decide_eq_false e; omega)
  | 8, e => exact h.2.2.2.2.2.2 8 j (by omega) (by omega) (by have := of_decide_eq_false e; omega)
  | k + 9, _ => rw [h.1 (k + 9) (by omega) (by omega)]
theorem read_both {n : Nat} {t : Nat → Nat} (hG : GT n t) (f dC dM : Nat) (hf : 300 < f) (hC : 40 ≤ dC) (hM : 40 ≤ dM) (LC LM : am_L) {I J : am_I} (hI : TC I n t) (hJ : TM J n t) {s : Nat} (hs : s ≤ 4) : ∃ I' J', am_ag s27 I I' ∧ am_ag (sR s) J J' ∧ ((fX2_read f dC I LC = some (-nI 1, I', LC) ∧ fX12_readLaw f dM (nI s) J LM = some (-nI 1, J', LM) ∧ ∃ cl, WC cl ∧ cln cl ≤ 240 ∧ mln cl ≤ 240 ∧ cl.length ≤ 140 ∧ I' 27 2 = nI (cln cl) ∧ CC (I' 28) 0 cl ∧ J' 5 s = nI cl.length ∧ MC J' s 0 0 cl) ∨ ∃ e, e ≤ 240 ∧ fX2_read f dC I LC = some (nI e, I', LC) ∧ fX12_readLaw f dM (nI s) J LM = some (nI e, J', LM)) := by
  have g := hG.1
  have bb := pc_bb hG f dC hf (TC_k (I' := am_up I 27 2 (nI 0)) hI (am_up_ne (by omega)) (am_up_ne (by omega))) LC (i := 0) (by omega)
  have P0 : PC n t (am_up (am_up I 27 2 (nI 0)) 27 3 (nI (nb n t 0))) (nb n t 0) 0 := ⟨TC_k (I' := am_up (am_up I 27 2 (nI 0)) 27 3 (nI (nb n t 0))) hI (by rw [am_up_ne (by omega), am_up_ne (by omega)]) (by rw [am_up_ne (by omega), am_up_ne (by omega)]), up_s rfl, by rw [up_n (by omega), up_s rfl]⟩
  have hC0 : fX2_read f dC I LC = fX2_read_b19 f dC f (nI 0) (am_up (am_up I 27 2 (nI 0)) 27 3 (nI (nb n t 0))) LC := by
    simp (disch := omega) only [fX2_read, zz_lt, li_0, li_1, li_2, li_3, li_4, li_5, li_6, li_7, li_8, li_9, li_10, li_11, li_12, li_15, li_16, li_20, li_21, li_24, li_25, li_26, li_32, li_33, li_38, li_40, li_41, li_42, li_43, li_45, li_47, li_48, li_57, li_58, li_59, li_60, li_61, li_62, li_63, li_74, li_75, li_84, li_91, li_93, li_98, li_100, li_103, li_105, li_107, li_109, li_110, li_111, li_112, li_115, li_118, li_119, li_120, li_121, li_124, li_140, li_180, li_206, li_240, li_255, li_420, li_520, li_999, li_1000, li_1771, li_8240, li_9999, li_88200, li_1000000, li_2097151, li_31, nI_add, pk_mul, zz_sub, zz_an, nI_clamp, zz_leT, zz_leF, zz_ltT, zz_ltF, zz_eqF, zz_eqT, zz_m1, zz_m2, zz_m3, zz_m4, zz_m5, zz_m6, zz_ck, zz_bl, zz_b3, zz_b2, zz_shl, zz_bt0, zz_bt1, pk_div, Nat.zero_add, Nat.add_zero, if_true, if_false, reduceIte, Nat.mul_zero, zz_or0, zz_inT, zz_inF, bb]
  have hM0 : fX12_readLaw f dM (nI s) J LM = am_b2 (fX12_clause f dM (am_up (am_up (am_up (am_up (am_up (am_up J 0 14 (nI s)) 0 3 (nI 0)) 0 4 (-nI 1)) 0 5 (nI 0)) 4 s (nI 0)) 5 s (nI 0)) LM) (fun I L => fX12_readLaw_b9 f dM f I L) := by
    simp (disch := omega) only [fX12_readLaw, fX12_open, zz_lt, li_0, li_1, li_2, li_3, li_4, li_5, li_6, li_7, li_8, li_9, li_10, li_11, li_12, li_15, li_16, li_20, li_21, li_24, li_25, li_26, li_32, li_33, li_38, li_40, li_41, li_42, li_43, li_45, li_47, li_48, li_57, li_58, li_59, li_60, li_61, li_62, li_63, li_74, li_75, li_84, li_91, li_93, li_98, li_100, li_103, li_105, li_107, li_109, li_110, li_111, li_112, li_115, li_118, li_119, li_120, li_121, li_124, li_140, li_180, li_206, li_240, li_255, li_420, li_520, li_999, li_1000, li_1771, li_8240, li_9999, li_88200, li_1000000, li_2097151, li_31, nI_add, pk_mul, zz_sub, zz_an, nI_clamp, zz_leT, zz_leF, zz_ltT, zz_ltF, zz_eqF, zz_eqT, zz_m1, zz_m2, zz_m3, zz_m4, zz_m5, zz_m6, zz_ck, zz_bl, zz_b3, zz_b2, zz_shl, zz_bt0, zz_bt1, pk_div, Nat.zero_add, Nat.add_zero, if_true, if_false, reduceIte, Nat.mul_zero, zz_or0, zz_inT, zz_inF]
  have PJ : PM n t (am_up (am_up (am_up (am_up (am_up (am_up J 0 14 (nI s)) 0 3 (nI 0)) 0 4 (-nI 1)) 0 5 (nI 0)) 4 s (nI 0)) 5 s (nI 0)) 0 (-nI 1) 0 s 0 := by
    refine ⟨TM_k hJ ?_ ?_, ?_, ?_, ?_, ?_, ?_⟩
    · rw [up0 (by omega), up0 (by omega), up_n (by omega), up_n (by omega), up_n (by omega), up_n (by omega)]
    · rw [am_up_ne (by omega), am_up_ne (by omega), am_up_ne (by omega), am_up_ne (by omega), am_up_ne (by omega), am_up_ne (by omega)]
    · rw [up0 (by omega), up0 (by omega), up_n (by omega), up_n (by omega), up_s rfl]
    · rw [up0 (by omega), up0 (by omega), up_n (by omega), up_s rfl]
    · rw [up0 (by omega), up0 (by omega), up_s rfl]
    · rw [up0 (by omega), up0 (by omega), up_n (by omega), up_n (by omega), up_n (by omega), up_s rfl]
    · rw [up4 (by omega), up_s rfl]
  have aJ : am_ag (sR s) J (am_up (am_up (am_up (am_up (am_up (am_up J 0 14 (nI s)) 0 3 (nI 0)) 0 4 (-nI 1)) 0 5 (nI 0)) 4 s (nI 0)) 5 s (nI 0)) := ag_up (ag_up (ag_up (ag_up (ag_up (ag_up ag_rf rfl) rfl) rfl) rfl) (decide_eq_true rfl)) (decide_eq_true rfl)
  have z5 : (am_up (am_up (am_up (am_up (am_up (am_up J 0 14 (nI s)) 0 3 (nI 0)) 0 4 (-nI 1)) 0 5 (nI 0)) 4 s (nI 0)) 5 s (nI 0)) 5 s = nI 0 := up_s rfl
  obtain ⟨J0, hJ0⟩ : ∃ J0, J0 = am_up (am_up (am_up (am_up (am_up (am_up J 0 14 (nI s)) 0 3 (nI 0)) 0 4 (-nI 1)) 0 5 (nI 0)) 4 s (nI 0)) 5 s (nI 0) := ⟨_, rfl⟩
  rw [← hJ0] at hM0 PJ aJ z5
  obtain ⟨I0, hI0⟩ : ∃ I0, I0 = am_up (am_up I 27 2 (nI 0)) 27 3 (nI (nb n t 0)) := ⟨_, rfl⟩
  have aI : am_ag s27 I I0 := by rw [hI0]; exact ag_up (ag_up ag_rf rfl) rfl
  rw [← hI0] at hC0 P0
  obtain ⟨I', J', x1, x2, x3⟩ := rd_L hG f dC dM hf hC hM LC LM hs f 0 f I0 J0 [] (nb n t 0) 0 ⟨P0, PJ, rfl, by omega, Nat.zero_le _, Nat.zero_le _, trivial, trivial, trivial, z5, fun _ _ _ => rfl, FK_rf s 0 0 J0⟩ (Nat.zero_le _) (by omega) (by omega)
  rw [← hC0, ← hM0] at x3
  exact ⟨I', J', ag_tr aI (FW_27 x1), ag_tr aJ (FK_R x2), x3⟩
theorem s27_scr {I I' : am_I} (a : am_ag s27 I I') : am_ag scrC I I' := ag_wk a (fun k j h => by
  unfold s27
  by_cases c : k = 27
  · subst c; exact absurd h (by simp [scrC])
  · by_cases c2 : k = 28
    · subst c2; exact absurd h (by simp [scrC])
    · simp [c, c2])
theorem sR4_scr {I I' : am_I} (a : am_ag (sR 4) I I') : am_ag scrM I I' := ag_wk a (fun k j h => by
  unfold sR
  split
  · cases e : (j == 3 || j == 4 || j == 5 || j == 14)
    · rfl
    · have e' : ((j = 3 ∨ j = 4) ∨ j = 5) ∨ j = 14 := by simpa using e
      rcases e' with ((z | z) | z) | z <;> (subst z; exact absurd h (by simp [scrM]))
  · have h' : decide (2080 ≤ j) = false := h
    exact h'
  · have h' : decide (2080 ≤ j) = false := h
    exact h'
  · have h' : decide (4 ≤ j) = false := h
    exact decide_eq_false (by have := of_decide_eq_false h'; omega)
  · have h' : decide (4 ≤ j) = false := h
    exact decide_eq_false (by have := of_decide_eq_false h'; omega)
  · have h' : decide (560 ≤ j) = false := h
    exact h'
  · have h' : decide (560 ≤ j) = false := h
    exact h'
  · have h' : decide (560 ≤ j) = false := h
    exact h'
  · rfl)
