/-! PURE: clauses of a law's text: with a condition; whole clauses. -/
section
variable {n : Nat} {t : Nat → Nat} {I J I0 J0 : am_I} {s j m c p0 pp : Nat}
theorem PM_K {k a : Nat} {w : Int32} {J' : am_I} (h : PM n t J a w k s m) (h0 : J' 0 = J 0) (h1 : J' 1 = J 1) (h4 : J' 4 = J 4) : PM n t J' a w k s m := ⟨TM_k h.1 (by rw [h0]) h1, by rw [h0]; exact h.2.1, by rw [h0]; exact h.2.2.1, by rw [h0]; exact h.2.2.2.1, by rw [h0]; exact h.2.2.2.2.1, by rw [h4]; exact h.2.2.2.2.2⟩
theorem PM_up {k a : Nat} {w : Int32} (h : PM n t J a w k s m) {q x : Nat} (v : Int32) (hq : 5 ≤ q) : PM n t (am_up J q x v) a w k s m := PM_K h (am_up_ne (by omega)) (am_up_ne (by omega)) (am_up_ne (by omega))
theorem ans_both (hG : GT n t) (f dC dM : Nat) (hf : 300 < f) (LC LM : am_L) (hsum : RX n t LC LM false 15 255 0 (fun I => gX2_readSum f dC 0 (nI 0) (nI 0) (nI 0) (nI 0) (nI 0) I LC) (fun J => gX12_sum f dM 0 (nI 0) (nI 0) (nI 0) (nI 0) (nI 0) J LM)) {A : List Nat} {p a : Nat} (w : OKw n t true 18 0 s p0 c m I0 J0 I J A p a) (h6 : J0 6 (140 * s + j) = nI m) (h5 : J0 5 s = nI j) (hs : s ≤ 4) (hj : j < 140) (hc : c + 1 ≤ p0) (hm : m ≤ p0) (hpp : pp + 1 ≤ p0) : RES n t LC LM s j pp c m I0 J0 (fX2_readClause_b125 f dC (nI 1) (nI 1) I LC) (fX12_clause_b184 f dM (nI (140 * s + j)) (nI 1) J LM) := by
  have g := hG.1
  obtain ⟨e1, e2, e3, e4, e5, e6, e7, e8, e9, e10, e11⟩ := w
  have An := EX_ne e1 (by omega)
  have pn : p ≤ n := by rw [← e4]; exact nb_le e5
  have j6 : J 6 (140 * s + j) = nI m := by rw [e11.1 6 (by omega) (by omega) (by omega) (by omega)]; exact h6
  have j5 : J 5 s = nI j := by rw [e11.1 5 (by omega) (by omega) (by omega) (by omega)]; exact h5
  have tk := lc_takes hG f dC hf LC e2 pn (ch := 63) (by omega)
  have P7 : PM n t (am_up J 7 (140 * s + j) (nI m)) a (-nI 1) 0 s (m + A.length) := PM_up e3 _ (by omega)
  have F7 : FK s m j J (am_up J 7 (140 * s + j) (nI m)) := FK_up s m j J _ (by omega) (Nat.le_refl _)
  have s5 : (am_up J 7 (140 * s + j) (nI m)) 5 s = nI j := by rw [up5 (by omega)]; exact j5
  have s6 : (am_up J 7 (140 * s + j) (nI m)) 6 = J 6 := am_up_ne (by omega)
  have s2 : (am_up J 7 (140 * s + j) (nI m)) 2 = J 2 := am_up_ne (by omega)
  have s3 : (am_up J 7 (140 * s + j) (nI m)) 3 = J 3 := am_up_ne (by omega)
  have st : fX12_clause_b184 f dM (nI (140 * s + j)) (nI 1) J LM = (fun J7 => if J7 0 4 = -nI 1 then am_b3 (fX12_look f dM J7 LM) (fun v3 I3 L3 => if v3 = nI 63 then (am_lt (am_up I3 0 3 ((I3 0 3) + nI 1)) (fun I4 => am_ck (I4 0 14) 5 (am_lt (I4 4 ((I4 0 14)).toNatClampNeg) (fun v5 => am_ck (nI (140 * s + j)) 700 (am_lt (am_up I4 7 (nI (140 * s + j)).toNatClampNeg v5) (fun I6 => am_b2 (fX12_sum f dM I6 L3) (fun I7 L7 => fX12_clause_b251 f dM (nI (140 * s + j)) I7 L7))))))) else (am_b2 (fX12_bad f dM I3 L3) (fun I8 L8 => some (I8, L8)))) else fX12_clause_b251 f dM (nI (140 * s + j)) J7 LM) (am_up J 7 (140 * s + j) (nI m)) := by
    simp (disch := omega) only [fX12_clause_b184, zz_lt, li_0, li_1, li_2, li_3, li_4, li_5, li_6, li_7, li_8, li_9, li_10, li_11, li_12, li_15, li_16, li_20, li_21, li_24, li_25, li_26, li_32, li_33, li_38, li_40, li_41, li_42, li_43, li_45, li_47, li_48, li_57, li_58, li_59, li_60, li_61, li_62, li_63, li_74, li_75, li_84, li_91, li_93, li_98, li_100, li_103, li_105, li_107, li_109, li_110, li_111, li_112, li_115, li_118, li_119, li_120, li_121, li_124, li_140, li_180, li_206, li_240, li_255, li_420, li_520, li_999, li_1000, li_1771, li_8240, li_9999, li_88200, li_1000000, li_2097151, li_31, nI_add, pk_mul, zz_sub, zz_an, nI_clamp, zz_leT, zz_leF, zz_ltT, zz_ltF, zz_eqF, zz_eqT, zz_m1, zz_m2, zz_m3, zz_m4, zz_m5, zz_m6, zz_ck, zz_bl, zz_b3, zz_b2, zz_shl, zz_bt0, zz_bt1, pk_div, Nat.zero_add, Nat.add_zero, if_true, if_false, reduceIte, Nat.mul_zero, zz_or0, zz_inT, zz_inF, j6]
  obtain ⟨J7, hJ7⟩ : ∃ J7, J7 = am_up J 7 (140 * s + j) (nI m) := ⟨_, rfl⟩
  rw [← hJ7] at P7 F7 s5 s6 s2 s3 st
  rw [st]
  have h4 := P7.2.2.1
  have l3 := (PM_3 P7 p).2.1
  have lk := lm_look hG f dM hf LM P7 e5
  rw [e4] at lk
  by_cases q : bx n t p = 64
  · rw [if_pos q] at tk
    have zb : zn (bx n t p) = nI 63 := by rw [q]; rfl
    have pln : p < n := bx_in (t := t) (by omega)
    rw [zb] at lk
    have nbp := nb_ge n t (p + 1)
    have pI := PC_go e2 (nb n t (p + 1))
    have fI := FC_27 (c + A.length) I 3 (nI (nb n t (p + 1)))
    obtain ⟨I2, hI2⟩ : ∃ I2, I2 = am_up I 27 3 (nI (nb n t (p + 1))) := ⟨_, rfl⟩
    rw [← hI2] at tk pI fI
    have pu := lc_put f dC LC pI (by omega) (-nI 21)
    have pI3 := PC_put pI (-nI 21)
    have f3 := FC_put I2 (c + A.length) (-nI 21) (nI (c + A.length + 1))
    have v21 : (am_up (am_up I2 28 (c + A.length) (-nI 21)) 27 2 (nI (c + A.length + 1))) 28 (c + A.length) = -nI 21 := by rw [am_up_ne (by omega), up_s rfl]
    obtain ⟨I3, hI3⟩ : ∃ I3, I3 = am_up (am_up I2 28 (c + A.length) (-nI 21)) 27 2 (nI (c + A.length + 1)) := ⟨_, rfl⟩
    rw [← hI3] at pu pI3 f3 v21
    have P8 := PM_3 (PM_3 P7 p) (p + 1)
    have F8 : FK s m j J7 (am_up (am_up J7 0 3 (nI p)) 0 3 (nI (p + 1))) := FK_FM j (FM_tr (FM_0 s m J7 (Or.inl rfl) _) (FM_0 s m _ (Or.inl rfl) _) (Nat.le_refl _))
    have w14 := P8.2.2.2.2.1
    have w4 := P8.2.2.2.2.2
    have P9 := PM_up (x := 140 * s + j) (q := 7) P8 (nI (m + A.length)) (by omega)
    have F9 := FK_tr F8 (FK_up s m j _ (k := 7) (nI (m + A.length)) (by omega) (Nat.le_refl (140 * s + j))) (Nat.le_refl _) (Nat.le_refl _)
    have t7 : (am_up (am_up (am_up J7 0 3 (nI p)) 0 3 (nI (p + 1))) 7 (140 * s + j) (nI (m + A.length))) 7 (140 * s + j) = nI (m + A.length) := up_s rfl
    have t6 : (am_up (am_up (am_up J7 0 3 (nI p)) 0 3 (nI (p + 1))) 7 (140 * s + j) (nI (m + A.length))) 6 = J7 6 := by rw [am_up_ne (by omega), am_up_ne (by omega), am_up_ne (by omega)]
    have t2 : (am_up (am_up (am_up J7 0 3 (nI p)) 0 3 (nI (p + 1))) 7 (140 * s + j) (nI (m + A.length))) 2 = J7 2 := by rw [am_up_ne (by omega), am_up_ne (by omega), am_up_ne (by omega)]
    have t3 : (am_up (am_up (am_up J7 0 3 (nI p)) 0 3 (nI (p + 1))) 7 (140 * s + j) (nI (m + A.length))) 3 = J7 3 := by rw [am_up_ne (by omega), am_up_ne (by omega), am_up_ne (by omega)]
    have t5 : (am_up (am_up (am_up J7 0 3 (nI p)) 0 3 (nI (p + 1))) 7 (140 * s + j) (nI (m + A.length))) 5 s = nI j := by rw [am_up_ne (by omega), am_up_ne (by omega), am_up_ne (by omega)]; exact s5
    have st2 : ∀ X, am_b2 (fX12_sum f dM (am_up (am_up (am_up J7 0 3 (nI p)) 0 3 (nI (p + 1))) 7 (140 * s + j) (nI (m + A.length))) LM) (fun I7 L7 => fX12_clause_b251 f dM (nI (140 * s + j)) I7 L7) = X → (fun J7 => if J7 0 4 = -nI 1 then am_b3 (fX12_look f dM J7 LM) (fun v3 I3 L3 => if v3 = nI 63 then (am_lt (am_up I3 0 3 ((I3 0 3) + nI 1)) (fun I4 => am_ck (I4 0 14) 5 (am_lt (I4 4 ((I4 0 14)).toNatClampNeg) (fun v5 => am_ck (nI (140 * s + j)) 700 (am_lt (am_up I4 7 (nI (140 * s + j)).toNatClampNeg v5) (fun I6 => am_b2 (fX12_sum f dM I6 L3) (fun I7 L7 => fX12_clause_b251 f dM (nI (140 * s + j)) I7 L7))))))) else (am_b2 (fX12_bad f dM I3 L3) (fun I8 L8 => some (I8, L8)))) else fX12_clause_b251 f dM (nI (140 * s + j)) J7 LM) J7 = X := fun X hX => by
      rw [← hX]
      simp (disch := omega) only [zz_lt, li_0, li_1, li_2, li_3, li_4, li_5, li_6, li_7, li_8, li_9, li_10, li_11, li_12, li_15, li_16, li_20, li_21, li_24, li_25, li_26, li_32, li_33, li_38, li_40, li_41, li_42, li_43, li_45, li_47, li_48, li_57, li_58, li_59, li_60, li_61, li_62, li_63, li_74, li_75, li_84, li_91, li_93, li_98, li_100, li_103, li_105, li_107, li_109, li_110, li_111, li_112, li_115, li_118, li_119, li_120, li_121, li_124, li_140, li_180, li_206, li_240, li_255, li_420, li_520, li_999, li_1000, li_1771, li_8240, li_9999, li_88200, li_1000000, li_2097151, li_31, nI_add, pk_mul, zz_sub, zz_an, nI_clamp, zz_leT, zz_leF, zz_ltT, zz_ltF, zz_eqF, zz_eqT, zz_m1, zz_m2, zz_m3, zz_m4, zz_m5, zz_m6, zz_ck, zz_bl, zz_b3, zz_b2, zz_shl, zz_bt0, zz_bt1, pk_div, Nat.zero_add, Nat.add_zero, if_true, if_false, reduceIte, Nat.mul_zero, zz_or0, zz_inT, zz_inF, h4, lk, l3, w14, w4]
    obtain ⟨J9, hJ9⟩ : ∃ J9, J9 = am_up (am_up (am_up J7 0 3 (nI p)) 0 3 (nI (p + 1))) 7 (140 * s + j) (nI (m + A.length)) := ⟨_, rfl⟩
    rw [← hJ9] at P9 F9 t7 t6 t2 t3 t5 st2
    obtain ⟨I4, J4, v, r | r⟩ := hsum I3 J9 (nb n t (p + 1)) (c + A.length + 1) (p + 1) s (m + A.length) pI3 P9 rfl (by omega) (by omega) (by omega) hs
    · obtain ⟨r1, r2, B, p3, a3, b1, b2, b3, b4, b5, b6, b7, b8, b9, b10, b11⟩ := r
      have r1' : fX2_readSum f dC (nI 0) I3 LC = some (nI 1, I4, LC) := r1
      have r2' := fsum_of r2
      have p3n : p3 ≤ n := by rw [← b4]; exact nb_le b5
      have pc := lc_put f dC LC b2 (by omega) (-nI 22)
      have pP := PC_put b2 (-nI 22)
      have fp := FC_put I4 (c + A.length + 1 + B.length) (-nI 22) (nI (c + A.length + 1 + B.length + 1))
      have v22 : (am_up (am_up I4 28 (c + A.length + 1 + B.length) (-nI 22)) 27 2 (nI (c + A.length + 1 + B.length + 1))) 28 (c + A.length + 1 + B.length) = -nI 22 := by rw [am_up_ne (by omega), up_s rfl]
      obtain ⟨I5, hI5⟩ : ∃ I5, I5 = am_up (am_up I4 28 (c + A.length + 1 + B.length) (-nI 22)) 27 2 (nI (c + A.length + 1 + B.length + 1)) := ⟨_, rfl⟩
      rw [← hI5] at pc pP fp v22
      have u5 : J4 5 s = nI j := by rw [b11.1 5 (by omega) (by omega) (by omega) (by omega)]; exact t5
      have bb := b251 f dM LM b3.2.2.2.2.1 b3.2.2.2.2.2 u5 hs hj
      have rP : PM n t (am_up (am_up J4 8 (140 * s + j) (nI (m + A.length + B.length))) 5 s (nI (j + 1))) a3 (-nI 1) 0 s (m + A.length + B.length) := PM_up (PM_up b3 _ (by omega)) _ (by omega)
      have fk : FK s m j J4 (am_up (am_up J4 8 (140 * s + j) (nI (m + A.length + B.length))) 5 s (nI (j + 1))) := FK_251 _ _ _
      have r5 : (am_up (am_up J4 8 (140 * s + j) (nI (m + A.length + B.length))) 5 s (nI (j + 1))) 5 s = nI (j + 1) := up_s rfl
      have r6 : (am_up (am_up J4 8 (140 * s + j) (nI (m + A.length + B.length))) 5 s (nI (j + 1))) 6 (140 * s + j) = nI m := by rw [am_up_ne (by omega), am_up_ne (by omega), b11.1 6 (by omega) (by omega) (by omega) (by omega), t6, s6]; exact j6
      have r7 : (am_up (am_up J4 8 (140 * s + j) (nI (m + A.length + B.length))) 5 s (nI (j + 1))) 7 (140 * s + j) = nI (m + A.length) := by rw [am_up_ne (by omega), am_up_ne (by omega), b11.1 7 (by omega) (by omega) (by omega) (by omega)]; exact t7
      have r8 : (am_up (am_up J4 8 (140 * s + j) (nI (m + A.length + B.length))) 5 s (nI (j + 1))) 8 (140 * s + j) = nI (m + A.length + B.length) := by rw [am_up_ne (by omega), up_s rfl]
      have q2 : (am_up (am_up J4 8 (140 * s + j) (nI (m + A.length + B.length))) 5 s (nI (j + 1))) 2 = J4 2 := by rw [am_up_ne (by omega), am_up_ne (by omega)]
      have q3 : (am_up (am_up J4 8 (140 * s + j) (nI (m + A.length + B.length))) 5 s (nI (j + 1))) 3 = J4 3 := by rw [am_up_ne (by omega), am_up_ne (by omega)]
      obtain ⟨J5, hJ5⟩ : ∃ J5, J5 = am_up (am_up J4 8 (140 * s + j) (nI (m + A.length + B.length))) 5 s (nI (j + 1)) := ⟨_, rfl⟩
      rw [← hJ5] at bb rP fk r5 r6 r7 r8 q2 q3
      have cl1 : cln [(A, B)] = A.length + 1 + B.length + 1 := by show (if A = [] then 0 else A.length + 1) + B.length + 1 + 0 = _; rw [if_neg An]
      have ml1 : mln [(A, B)] = A.length + B.length := by show A.length + B.length + 0 = _; omega
      refine ⟨I5, J5, Or.inl ⟨?_, st2 _ ?_, (A, B), p3, a3, ⟨fun _ => e1, ⟨false, EX_up b1 (by omega)⟩, trivial⟩, ?_, ?_, b4, b5, ?_, ⟨fun z => absurd z An, fun _ => ⟨RQ_ext A c (fun x _ h2 => ?_) e7, ?_, RQ_ext B _ (fun x _ h2 => fp.2 x h2) b7, v22, trivial⟩⟩, ⟨r6, r7, r8, RQ_ext A _ (fun x _ h2 => ?_) e8, RQ_ext A _ (fun x _ h2 => ?_) e9, RQ_ext B _ (fun x _ h2 => by rw [q2]) b8, RQ_ext B _ (fun x _ h2 => by rw [q3]) b9, trivial⟩, r5, ?_, ?_⟩⟩
      · simp (disch := omega) only [fX2_readClause_b125, fX2_readAnswer, fX2_readClause_b138, lj_22, zz_lt, li_0, li_1, li_2, li_3, li_4, li_5, li_6, li_7, li_8, li_9, li_10, li_11, li_12, li_15, li_16, li_20, li_21, li_24, li_25, li_26, li_32, li_33, li_38, li_40, li_41, li_42, li_43, li_45, li_47, li_48, li_57, li_58, li_59, li_60, li_61, li_62, li_63, li_74, li_75, li_84, li_91, li_93, li_98, li_100, li_103, li_105, li_107, li_109, li_110, li_111, li_112, li_115, li_118, li_119, li_120, li_121, li_124, li_140, li_180, li_206, li_240, li_255, li_420, li_520, li_999, li_1000, li_1771, li_8240, li_9999, li_88200, li_1000000, li_2097151, li_31, nI_add, pk_mul, zz_sub, zz_an, nI_clamp, zz_leT, zz_leF, zz_ltT, zz_ltF, zz_eqF, zz_eqT, zz_m1, zz_m2, zz_m3, zz_m4, zz_m5, zz_m6, zz_ck, zz_bl, zz_b3, zz_b2, zz_shl, zz_bt0, zz_bt1, pk_div, Nat.zero_add, Nat.add_zero, if_true, if_false, reduceIte, Nat.mul_zero, zz_or0, zz_inT, zz_inF, tk, pu, r1', pc]
      · rw [r2', zz_b2, bb]
      · rw [cl1, show c + (A.length + 1 + B.length + 1) = c + A.length + 1 + B.length + 1 by omega]; exact pP
      · rw [ml1, show m + (A.length + B.length) = m + A.length + B.length by omega]; exact rP
      · rw [cl1]; omega
      · rw [fp.2 x (by omega), b10.2 x (by omega), f3.2 x (by omega), fI.2 x (by omega)]
      · show I5 28 (c + A.length) = -nI 21
        rw [fp.2 _ (by omega), b10.2 _ (by omega)]; exact v21
      · rw [q2, b11.2.2.1 x (by omega), t2, s2]
      · rw [q3, b11.2.2.2.1 x (by omega), t3, s3]
      · exact FC_tr e10 (FC_tr fI (FC_tr f3 (FC_tr b10 fp (by omega)) (by omega)) (Nat.le_refl _)) (by omega)
      · exact FK_tr (FK_FM j e11) (FK_tr F7 (FK_tr F9 (FK_tr (FK_FM j (FM_lo b11 (by omega))) fk (Nat.le_refl _) (Nat.le_refl _)) (Nat.le_refl _) (Nat.le_refl _)) (Nat.le_refl _) (Nat.le_refl _)) (Nat.le_refl _) (Nat.le_refl _)
    · obtain ⟨r1, r2, e, z1, z2, z3, z4⟩ := r
      have r1' : fX2_readSum f dC (nI 0) I3 LC = some (nI 0, I4, LC) := r1
      have r2' := fsum_of r2
      obtain ⟨I5, x1, x2, x3⟩ := b138_err f dC LC I4
      obtain ⟨J5, y1, y2, y3⟩ := b251_err f dM LM (mf_lo z2 (m := m) (by omega)) (by rw [z4.1 5 (by omega) (by omega) (by omega) (by omega)]; exact t5) hs hj
      refine ⟨I5, J5, Or.inr ⟨?_, st2 _ ?_, e, z2.2.1, x3.trans z1, y2, fun k a b => ?_, ?_⟩⟩
      · simp (disch := omega) only [fX2_readClause_b125, fX2_readAnswer, zz_lt, li_0, li_1, li_2, li_3, li_4, li_5, li_6, li_7, li_8, li_9, li_10, li_11, li_12, li_15, li_16, li_20, li_21, li_24, li_25, li_26, li_32, li_33, li_38, li_40, li_41, li_42, li_43, li_45, li_47, li_48, li_57, li_58, li_59, li_60, li_61, li_62, li_63, li_74, li_75, li_84, li_91, li_93, li_98, li_100, li_103, li_105, li_107, li_109, li_110, li_111, li_112, li_115, li_118, li_119, li_120, li_121, li_124, li_140, li_180, li_206, li_240, li_255, li_420, li_520, li_999, li_1000, li_1771, li_8240, li_9999, li_88200, li_1000000, li_2097151, li_31, nI_add, pk_mul, zz_sub, zz_an, nI_clamp, zz_leT, zz_leF, zz_ltT, zz_ltF, zz_eqF, zz_eqT, zz_m1, zz_m2, zz_m3, zz_m4, zz_m5, zz_m6, zz_ck, zz_bl, zz_b3, zz_b2, zz_shl, zz_bt0, zz_bt1, pk_div, Nat.zero_add, Nat.add_zero, if_true, if_false, reduceIte, Nat.mul_zero, zz_or0, zz_inT, zz_inF, tk, pu, r1', x1]
      · rw [r2', zz_b2, y1]
      · rw [x2 k a b, z3.1 k a b, f3.1 k a b, fI.1 k a b, e10.1 k a b]
      · exact FK_tr (FK_FM j e11) (FK_tr F7 (FK_tr F9 (FK_tr (FK_FM j (FM_lo z4 (by omega))) y3 (Nat.le_refl _) (Nat.le_refl _)) (Nat.le_refl _) (Nat.le_refl _)) (Nat.le_refl _) (Nat.le_refl _)) (Nat.le_refl _) (Nat.le_refl _)
  · rw [if_neg q] at tk
    have n1 : (zn (bx n t p) = nI 63) = False := (zn_ch (bx_le hG p) (by omega)).trans (eq_false q)
    have bad := lm_bad f dM LM (PM_3 P7 p) rfl
    obtain ⟨I5, x1, x2, x3⟩ := b138_err f dC LC I
    refine ⟨I5, am_up (am_up J7 0 3 (nI p)) 0 4 (nI p), Or.inr ⟨?_, ?_, p, by omega, x3.trans e2.2.1, up_s rfl, fun k a b => ?_, ?_⟩⟩
    · simp (disch := omega) only [fX2_readClause_b125, fX2_readAnswer, zz_lt, li_0, li_1, li_2, li_3, li_4, li_5, li_6, li_7, li_8, li_9, li_10, li_11, li_12, li_15, li_16, li_20, li_21, li_24, li_25, li_26, li_32, li_33, li_38, li_40, li_41, li_42, li_43, li_45, li_47, li_48, li_57, li_58, li_59, li_60, li_61, li_62, li_63, li_74, li_75, li_84, li_91, li_93, li_98, li_100, li_103, li_105, li_107, li_109, li_110, li_111, li_112, li_115, li_118, li_119, li_120, li_121, li_124, li_140, li_180, li_206, li_240, li_255, li_420, li_520, li_999, li_1000, li_1771, li_8240, li_9999, li_88200, li_1000000, li_2097151, li_31, nI_add, pk_mul, zz_sub, zz_an, nI_clamp, zz_leT, zz_leF, zz_ltT, zz_ltF, zz_eqF, zz_eqT, zz_m1, zz_m2, zz_m3, zz_m4, zz_m5, zz_m6, zz_ck, zz_bl, zz_b3, zz_b2, zz_shl, zz_bt0, zz_bt1, pk_div, Nat.zero_add, Nat.add_zero, if_true, if_false, reduceIte, Nat.mul_zero, zz_or0, zz_inT, zz_inF, tk, x1]
    · simp (disch := omega) only [zz_lt, li_0, li_1, li_2, li_3, li_4, li_5, li_6, li_7, li_8, li_9, li_10, li_11, li_12, li_15, li_16, li_20, li_21, li_24, li_25, li_26, li_32, li_33, li_38, li_40, li_41, li_42, li_43, li_45, li_47, li_48, li_57, li_58, li_59, li_60, li_61, li_62, li_63, li_74, li_75, li_84, li_91, li_93, li_98, li_100, li_103, li_105, li_107, li_109, li_110, li_111, li_112, li_115, li_118, li_119, li_120, li_121, li_124, li_140, li_180, li_206, li_240, li_255, li_420, li_520, li_999, li_1000, li_1771, li_8240, li_9999, li_88200, li_1000000, li_2097151, li_31, nI_add, pk_mul, zz_sub, zz_an, nI_clamp, zz_leT, zz_leF, zz_ltT, zz_ltF, zz_eqF, zz_eqT, zz_m1, zz_m2, zz_m3, zz_m4, zz_m5, zz_m6, zz_ck, zz_bl, zz_b3, zz_b2, zz_shl, zz_bt0, zz_bt1, pk_div, Nat.zero_add, Nat.add_zero, if_true, if_false, reduceIte, Nat.mul_zero, zz_or0, zz_inT, zz_inF, h4, lk, n1, bad]
    · rw [x2 k a b, e10.1 k a b]
    · exact FK_tr (FK_FM j e11) (FK_tr F7 (FK_FM j (FM_tr (FM_0 s m J7 (Or.inl rfl) _) (FM_0 s m _ (Or.inr (Or.inl rfl)) _) (Nat.le_refl _))) (Nat.le_refl _) (Nat.le_refl _)) (Nat.le_refl _) (Nat.le_refl _)
end
