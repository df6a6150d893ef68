/-! PURE: comparisons and units in a law's text. -/
def RZ (n : Nat) (t : Nat → Nat) (LC LM : am_L) (b b' : Bool) (h h' E k : Nat) (rc rm : am_I → Option (Int32 × am_I × am_L)) : Prop := ∀ (I0 J0 I J : am_I) (p0 c0 m0 s : Nat) (ops : List Nat) (p a : Nat), OKw n t b h k s p0 c0 m0 I0 J0 I J ops p a → c0 ≤ p0 → m0 ≤ p0 → s ≤ 4 → ∃ (I' J' : am_I) (v : Int32), (rc I = some (nI 1, I', LC) ∧ rm J = some (v, J', LM) ∧ OKx n t b' h' k s p0 c0 m0 I0 J0 I' J') ∨ (rc I = some (nI 0, I', LC) ∧ rm J = some (v, J', LM) ∧ ERx s c0 m0 E I0 J0 I' J')
theorem RX_up {n : Nat} {t : Nat → Nat} {LC LM : am_L} {b : Bool} {h h' E E' k : Nat} {rc rm : am_I → Option (Int32 × am_I × am_L)} (x : RX n t LC LM b h E k rc rm) (hh : h ≤ h') (hE : E ≤ E') : RX n t LC LM b h' E' k rc rm := by
  intro I J p c a s m hI hJ hn ha hc hm hs
  obtain ⟨I', J', v, r | r⟩ := x I J p c a s m hI hJ hn ha hc hm hs
  · obtain ⟨r1, r2, ops, p', a', e, w⟩ := r
    exact ⟨I', J', v, Or.inl ⟨r1, r2, ops, p', a', EX_up e hh, w⟩⟩
  · obtain ⟨r1, r2, e, z1, z2, z3⟩ := r
    exact ⟨I', J', v, Or.inr ⟨r1, r2, e, z1, mf_hi z2 hE, z3⟩⟩
theorem OKw_b {n : Nat} {t : Nat → Nat} {b : Bool} {h k s p c m : Nat} {I J I1 J1 I' J' : am_I} {ops : List Nat} {p' a' : Nat} (fI : FC c I I1) (fJ : FM s m J J1) (w : OKw n t b h k s p c m I1 J1 I' J' ops p' a') : OKw n t b h k s p c m I J I' J' ops p' a' := ⟨w.1, w.2.1, w.2.2.1, w.2.2.2.1, w.2.2.2.2.1, w.2.2.2.2.2.1, w.2.2.2.2.2.2.1, w.2.2.2.2.2.2.2.1, w.2.2.2.2.2.2.2.2.1, FC_tr fI w.2.2.2.2.2.2.2.2.2.1 (Nat.le_refl _), FM_tr fJ w.2.2.2.2.2.2.2.2.2.2 (Nat.le_refl _)⟩
theorem fsum_of {f d : Nat} {J J' : am_I} {L L' : am_L} {v : Int32} (h : gX12_sum f d 0 (nI 0) (nI 0) (nI 0) (nI 0) (nI 0) J L = some (v, J', L')) : fX12_sum f d J L = some (J', L') := by
  unfold fX12_sum
  exact congrArg (fun x => am_b3 x (fun _ I L => some (I, L))) h
theorem PM_5 {n : Nat} {t : Nat → Nat} {J : am_I} {a k s m : Nat} {w : Int32} (h : PM n t J a w k s m) (k' : Nat) : PM n t (am_up J 0 5 (nI k')) a w k' s m := ⟨TM_k h.1 (up_n (by omega)) (am_up_ne (by omega)), by rw [up_n (by omega)]; exact h.2.1, by rw [up_n (by omega)]; exact h.2.2.1, up_s rfl, by rw [up_n (by omega)]; exact h.2.2.2.2.1, by rw [am_up_ne (by omega)]; exact h.2.2.2.2.2⟩
/-- a bracket or a '!' opened at p -/
theorem opens_ok {n : Nat} {t : Nat → Nat} {J : am_I} {p k s m : Nat} (f d : Nat) (L : am_L) (h : PM n t J p (-nI 1) k s m) (hk : k < 6) (hp : p < 1000) : fX12_opens f d J L = some (am_up (am_up J 0 5 (nI (k + 1))) 0 3 (nI (p + 1)), L) ∧ PM n t (am_up (am_up J 0 5 (nI (k + 1))) 0 3 (nI (p + 1))) (p + 1) (-nI 1) (k + 1) s m ∧ FM s m J (am_up (am_up J 0 5 (nI (k + 1))) 0 3 (nI (p + 1))) := by
  have q5 := PM_5 h (k + 1)
  have l5 := h.2.2.2.1
  have u3 := q5.2.1
  refine ⟨?_, PM_3 q5 (p + 1), FM_tr (FM_0 s m J (Or.inr (Or.inr rfl)) _) (FM_0 s m _ (Or.inl rfl) _) (Nat.le_refl _)⟩
  simp (disch := omega) only [fX12_opens, fX12_opens_b13, zz_lt, li_0, li_1, li_2, li_3, li_4, li_5, li_6, li_7, li_8, li_9, li_10, li_11, li_12, li_15, li_16, li_20, li_21, li_24, li_25, li_26, li_32, li_33, li_38, li_40, li_41, li_42, li_43, li_45, li_47, li_48, li_57, li_58, li_59, li_60, li_61, li_62, li_63, li_74, li_75, li_84, li_91, li_93, li_98, li_100, li_103, li_105, li_107, li_109, li_110, li_111, li_112, li_115, li_118, li_119, li_120, li_121, li_124, li_140, li_180, li_206, li_240, li_255, li_420, li_520, li_999, li_1000, li_1771, li_8240, li_9999, li_88200, li_1000000, li_2097151, li_31, nI_add, pk_mul, zz_sub, zz_an, nI_clamp, zz_leT, zz_leF, zz_ltT, zz_ltF, zz_eqF, zz_eqT, zz_m1, zz_m2, zz_m3, zz_m4, zz_m5, zz_m6, zz_ck, zz_bl, zz_b3, zz_b2, zz_shl, zz_bt0, zz_bt1, pk_div, Nat.zero_add, Nat.add_zero, if_true, if_false, reduceIte, Nat.mul_zero, zz_or0, zz_inT, zz_inF, l5, u3]
theorem opens_bad {n : Nat} {t : Nat → Nat} {J : am_I} {p s m : Nat} (E : Nat) (f d : Nat) (L : am_L) (h : PM n t J p (-nI 1) 6 s m) (hp : p ≤ 240) (hm : m ≤ E) : ∃ J', fX12_opens f d J L = some (J', L) ∧ MF J' s m E p ∧ FM s m J J' := by
  have bad := lm_bad f d L h rfl
  have mf := mf_bad (E := E) h hp hm
  have l5 := h.2.2.2.1
  have fb : FM s m J (am_up J 0 4 (nI p)) := FM_0 s m J (Or.inr (Or.inl rfl)) _
  obtain ⟨JB, hJB⟩ : ∃ JB, JB = am_up J 0 4 (nI p) := ⟨_, rfl⟩
  rw [← hJB] at bad mf fb
  refine ⟨am_up (am_up JB 0 5 (JB 0 5 + nI 1)) 0 3 ((am_up JB 0 5 (JB 0 5 + nI 1)) 0 3 + nI 1), ?_, mf_0 (mf_0 mf (Or.inr rfl) _) (Or.inl rfl) _, FM_tr fb (FM_tr (FM_0 s m JB (Or.inr (Or.inr rfl)) _) (FM_0 s m _ (Or.inl rfl) _) (Nat.le_refl _)) (Nat.le_refl _)⟩
  unfold fX12_opens
  rw [l5, if_pos (show nI 6 = (6 : Int32) from rfl), bad]
  rfl
theorem mf_n1 {J : am_I} {s m E e : Nat} (h : MF J s m E e) : (J 0 4 = -nI 1) = False := by
  rw [h.1]
  have := h.2.1
  exact zz_m1 (by omega)
theorem b2_some {F : Option (am_I × am_L)} {v : Int32} {J' : am_I} {L' : am_L} (h : am_b2 F (fun I L => some (nI 0, I, L)) = some (v, J', L')) : ∃ J5, F = some (J5, L') ∧ J5 = J' := by
  match F, h with
  | some (J5, L5), h =>
    have h' : some (nI 0, J5, L5) = some (v, J', L') := h
    simp only [Option.some.injEq, Prod.mk.injEq] at h'
    exact ⟨J5, by rw [h'.2.2], h'.2.1⟩
theorem cmp_both {n : Nat} {t : Nat → Nat} (hG : GT n t) (f dC dM : Nat) (hf : 300 < f) (LC LM : am_L) {h E k : Nat} (hE : E < 500) (hE2 : 240 ≤ E) (hsum : RX n t LC LM false h E k (fun I => gX2_readSum f dC 0 (nI k) (nI 0) (nI 0) (nI 0) (nI 0) I LC) (fun J => gX12_sum f dM 0 (nI 0) (nI 0) (nI 0) (nI 0) (nI 0) J LM)) : RZ n t LC LM false true h (h + 1) (E + 1) k (fun I => fX2_readComparison f dC (nI k) I LC) (fun J => am_b2 (fX12_compare f dM J LM) (fun I L => some (nI 0, I, L))) := by
  intro I0 J0 I J p0 c0 m0 s ops p a w hc hm hs
  have g := hG.1
  have w0 := w
  obtain ⟨e1, e2, e3, e4, e5, e6, e7, e8, e9, e10, e11⟩ := w
  have pn : p ≤ n := by rw [← e4]; exact nb_le e5
  have at1 := lc_at hG f dC LC e2 pn
  have i3 := e2.2.1
  have lk := lm_look hG f dM hf LM e3 e5
  rw [e4] at lk
  have h4 := e3.2.2.1
  have l3 := (PM_3 e3 p).2.1
  by_cases q61 : bx n t p = 62
  · have zb : zn (bx n t p) = nI 61 := by rw [q61]; rfl
    have pln : p < n := bx_in (t := t) (by omega)
    rw [zb] at at1 lk
    have go := lc_gon hG f dC hf LC e2 pln
    obtain ⟨s1, s2, s3, s4⟩ := pass_both e2 e3
    have nbp := nb_ge n t (p + 1)
    obtain ⟨I3, J3, v, r | r⟩ := hsum _ _ (nb n t (p + 1)) (c0 + ops.length) (p + 1) s (m0 + ops.length) s1 s2 rfl (by omega) (by omega) (by omega) hs
    · obtain ⟨r1, r2, B, p3, a3, w3⟩ := r
      have r1' : fX2_readSum f dC (nI k) (am_up I 27 3 (nI (nb n t (p + 1)))) LC = some (nI 1, I3, LC) := r1
      have r2' := fsum_of r2
      obtain ⟨I4, J4, x1, x2, x3⟩ := join_both hG f dC dM LC LM w0 s3 s4 w3 (by omega) (o := 4) (h := h + 1) (by omega) (by omega) (by omega) hs hc hm
      have x1' : fX2_put f dC (-nI 15) I3 LC = some (I4, LC) := x1
      have x2' : fX12_put f dM (nI 6) (nI 0) J3 LM = some (J4, LM) := x2
      refine ⟨I4, J4, nI 0, Or.inl ⟨?_, ?_, OKw_x x3⟩⟩
      · simp (disch := omega) only [fX2_readComparison, fX2_comparisonOf, lj_17, zz_lt, li_0, li_1, li_2, li_3, li_4, li_5, li_6, li_7, li_8, li_9, li_10, li_11, li_12, li_15, li_16, li_20, li_21, li_24, li_25, li_26, li_32, li_33, li_38, li_40, li_41, li_42, li_43, li_45, li_47, li_48, li_57, li_58, li_59, li_60, li_61, li_62, li_63, li_74, li_75, li_84, li_91, li_93, li_98, li_100, li_103, li_105, li_107, li_109, li_110, li_111, li_112, li_115, li_118, li_119, li_120, li_121, li_124, li_140, li_180, li_206, li_240, li_255, li_420, li_520, li_999, li_1000, li_1771, li_8240, li_9999, li_88200, li_1000000, li_2097151, li_31, nI_add, pk_mul, zz_sub, zz_an, nI_clamp, zz_leT, zz_leF, zz_ltT, zz_ltF, zz_eqF, zz_eqT, zz_m1, zz_m2, zz_m3, zz_m4, zz_m5, zz_m6, zz_ck, zz_bl, zz_b3, zz_b2, zz_shl, zz_bt0, zz_bt1, pk_div, Nat.zero_add, Nat.add_zero, if_true, if_false, reduceIte, Nat.mul_zero, zz_or0, zz_inT, zz_inF, i3, at1, go, r1', x1']
      · simp (disch := omega) only [fX12_compare, fX12_compare_b16, fX12_isSign, fX12_isSign_b18, fX12_compare_b68, zz_lt, li_0, li_1, li_2, li_3, li_4, li_5, li_6, li_7, li_8, li_9, li_10, li_11, li_12, li_15, li_16, li_20, li_21, li_24, li_25, li_26, li_32, li_33, li_38, li_40, li_41, li_42, li_43, li_45, li_47, li_48, li_57, li_58, li_59, li_60, li_61, li_62, li_63, li_74, li_75, li_84, li_91, li_93, li_98, li_100, li_103, li_105, li_107, li_109, li_110, li_111, li_112, li_115, li_118, li_119, li_120, li_121, li_124, li_140, li_180, li_206, li_240, li_255, li_420, li_520, li_999, li_1000, li_1771, li_8240, li_9999, li_88200, li_1000000, li_2097151, li_31, nI_add, pk_mul, zz_sub, zz_an, nI_clamp, zz_leT, zz_leF, zz_ltT, zz_ltF, zz_eqF, zz_eqT, zz_m1, zz_m2, zz_m3, zz_m4, zz_m5, zz_m6, zz_ck, zz_bl, zz_b3, zz_b2, zz_shl, zz_bt0, zz_bt1, pk_div, Nat.zero_add, Nat.add_zero, if_true, if_false, reduceIte, Nat.mul_zero, zz_or0, zz_inT, zz_inF, h4, lk, l3, r2', x2']
    · obtain ⟨r1, r2, e, z1, z2, z3, z4⟩ := r
      have r1' : fX2_readSum f dC (nI k) (am_up I 27 3 (nI (nb n t (p + 1)))) LC = some (nI 0, I3, LC) := r1
      have r2' := fsum_of r2
      obtain ⟨J4, x2, x3, x4⟩ := mf_put f dM LM z2 hs (by omega) (nI 6) (nI 0)
      refine ⟨I3, J4, nI 0, Or.inr ⟨?_, ?_, e, z1, mf_lo x3 (by omega), FC_tr e10 (FC_tr s3 z3 (Nat.le_refl _)) (by omega), FM_tr e11 (FM_tr s4 (FM_tr z4 x4 (Nat.le_refl _)) (Nat.le_refl _)) (by omega)⟩⟩
      · simp (disch := omega) only [fX2_readComparison, fX2_comparisonOf, lj_17, zz_lt, li_0, li_1, li_2, li_3, li_4, li_5, li_6, li_7, li_8, li_9, li_10, li_11, li_12, li_15, li_16, li_20, li_21, li_24, li_25, li_26, li_32, li_33, li_38, li_40, li_41, li_42, li_43, li_45, li_47, li_48, li_57, li_58, li_59, li_60, li_61, li_62, li_63, li_74, li_75, li_84, li_91, li_93, li_98, li_100, li_103, li_105, li_107, li_109, li_110, li_111, li_112, li_115, li_118, li_119, li_120, li_121, li_124, li_140, li_180, li_206, li_240, li_255, li_420, li_520, li_999, li_1000, li_1771, li_8240, li_9999, li_88200, li_1000000, li_2097151, li_31, nI_add, pk_mul, zz_sub, zz_an, nI_clamp, zz_leT, zz_leF, zz_ltT, zz_ltF, zz_eqF, zz_eqT, zz_m1, zz_m2, zz_m3, zz_m4, zz_m5, zz_m6, zz_ck, zz_bl, zz_b3, zz_b2, zz_shl, zz_bt0, zz_bt1, pk_div, Nat.zero_add, Nat.add_zero, if_true, if_false, reduceIte, Nat.mul_zero, zz_or0, zz_inT, zz_inF, i3, at1, go, r1']
      · simp (disch := omega) only [fX12_compare, fX12_compare_b16, fX12_isSign, fX12_isSign_b18, fX12_compare_b68, zz_lt, li_0, li_1, li_2, li_3, li_4, li_5, li_6, li_7, li_8, li_9, li_10, li_11, li_12, li_15, li_16, li_20, li_21, li_24, li_25, li_26, li_32, li_33, li_38, li_40, li_41, li_42, li_43, li_45, li_47, li_48, li_57, li_58, li_59, li_60, li_61, li_62, li_63, li_74, li_75, li_84, li_91, li_93, li_98, li_100, li_103, li_105, li_107, li_109, li_110, li_111, li_112, li_115, li_118, li_119, li_120, li_121, li_124, li_140, li_180, li_206, li_240, li_255, li_420, li_520, li_999, li_1000, li_1771, li_8240, li_9999, li_88200, li_1000000, li_2097151, li_31, nI_add, pk_mul, zz_sub, zz_an, nI_clamp, zz_leT, zz_leF, zz_ltT, zz_ltF, zz_eqF, zz_eqT, zz_m1, zz_m2, zz_m3, zz_m4, zz_m5, zz_m6, zz_ck, zz_bl, zz_b3, zz_b2, zz_shl, zz_bt0, zz_bt1, pk_div, Nat.zero_add, Nat.add_zero, if_true, if_false, reduceIte, Nat.mul_zero, zz_or0, zz_inT, zz_inF, h4, lk, l3, r2', x2]
  by_cases q60 : bx n t p = 61
  · have zb : zn (bx n t p) = nI 60 := by rw [q60]; rfl
    have pln : p < n := bx_in (t := t) (by omega)
    rw [zb] at at1 lk
    have go := lc_gon hG f dC hf LC e2 pln
    obtain ⟨s1, s2, s3, s4⟩ := pass_both e2 e3
    have nbp := nb_ge n t (p + 1)
    obtain ⟨I3, J3, v, r | r⟩ := hsum _ _ (nb n t (p + 1)) (c0 + ops.length) (p + 1) s (m0 + ops.length) s1 s2 rfl (by omega) (by omega) (by omega) hs
    · obtain ⟨r1, r2, B, p3, a3, w3⟩ := r
      have r1' : fX2_readSum f dC (nI k) (am_up I 27 3 (nI (nb n t (p + 1)))) LC = some (nI 1, I3, LC) := r1
      have r2' := fsum_of r2
      obtain ⟨I4, J4, x1, x2, x3⟩ := join_both hG f dC dM LC LM w0 s3 s4 w3 (by omega) (o := 5) (h := h + 1) (by omega) (by omega) (by omega) hs hc hm
      have x1' : fX2_put f dC (-nI 16) I3 LC = some (I4, LC) := x1
      have x2' : fX12_put f dM (nI 7) (nI 0) J3 LM = some (J4, LM) := x2
      refine ⟨I4, J4, nI 0, Or.inl ⟨?_, ?_, OKw_x x3⟩⟩
      · simp (disch := omega) only [fX2_readComparison, fX2_comparisonOf, lj_17, zz_lt, li_0, li_1, li_2, li_3, li_4, li_5, li_6, li_7, li_8, li_9, li_10, li_11, li_12, li_15, li_16, li_20, li_21, li_24, li_25, li_26, li_32, li_33, li_38, li_40, li_41, li_42, li_43, li_45, li_47, li_48, li_57, li_58, li_59, li_60, li_61, li_62, li_63, li_74, li_75, li_84, li_91, li_93, li_98, li_100, li_103, li_105, li_107, li_109, li_110, li_111, li_112, li_115, li_118, li_119, li_120, li_121, li_124, li_140, li_180, li_206, li_240, li_255, li_420, li_520, li_999, li_1000, li_1771, li_8240, li_9999, li_88200, li_1000000, li_2097151, li_31, nI_add, pk_mul, zz_sub, zz_an, nI_clamp, zz_leT, zz_leF, zz_ltT, zz_ltF, zz_eqF, zz_eqT, zz_m1, zz_m2, zz_m3, zz_m4, zz_m5, zz_m6, zz_ck, zz_bl, zz_b3, zz_b2, zz_shl, zz_bt0, zz_bt1, pk_div, Nat.zero_add, Nat.add_zero, if_true, if_false, reduceIte, Nat.mul_zero, zz_or0, zz_inT, zz_inF, i3, at1, go, r1', x1']
      · simp (disch := omega) only [fX12_compare, fX12_compare_b16, fX12_isSign, fX12_isSign_b18, fX12_compare_b68, zz_lt, li_0, li_1, li_2, li_3, li_4, li_5, li_6, li_7, li_8, li_9, li_10, li_11, li_12, li_15, li_16, li_20, li_21, li_24, li_25, li_26, li_32, li_33, li_38, li_40, li_41, li_42, li_43, li_45, li_47, li_48, li_57, li_58, li_59, li_60, li_61, li_62, li_63, li_74, li_75, li_84, li_91, li_93, li_98, li_100, li_103, li_105, li_107, li_109, li_110, li_111, li_112, li_115, li_118, li_119, li_120, li_121, li_124, li_140, li_180, li_206, li_240, li_255, li_420, li_520, li_999, li_1000, li_1771, li_8240, li_9999, li_88200, li_1000000, li_2097151, li_31, nI_add, pk_mul, zz_sub, zz_an, nI_clamp, zz_leT, zz_leF, zz_ltT, zz_ltF, zz_eqF, zz_eqT, zz_m1, zz_m2, zz_m3, zz_m4, zz_m5, zz_m6, zz_ck, zz_bl, zz_b3, zz_b2, zz_shl, zz_bt0, zz_bt1, pk_div, Nat.zero_add, Nat.add_zero, if_true, if_false, reduceIte, Nat.mul_zero, zz_or0, zz_inT, zz_inF, h4, lk, l3, r2', x2']
    · obtain ⟨r1, r2, e, z1, z2, z3, z4⟩ := r
      have r1' : fX2_readSum f dC (nI k) (am_up I 27 3 (nI (nb n t (p + 1)))) LC = some (nI 0, I3, LC) := r1
      have r2' := fsum_of r2
      obtain ⟨J4, x2, x3, x4⟩ := mf_put f dM LM z2 hs (by omega) (nI 7) (nI 0)
      refine ⟨I3, J4, nI 0, Or.inr ⟨?_, ?_, e, z1, mf_lo x3 (by omega), FC_tr e10 (FC_tr s3 z3 (Nat.le_refl _)) (by omega), FM_tr e11 (FM_tr s4 (FM_tr z4 x4 (Nat.le_refl _)) (Nat.le_refl _)) (by omega)⟩⟩
      · simp (disch := omega) only [fX2_readComparison, fX2_comparisonOf, lj_17, zz_lt, li_0, li_1, li_2, li_3, li_4, li_5, li_6, li_7, li_8, li_9, li_10, li_11, li_12, li_15, li_16, li_20, li_21, li_24, li_25, li_26, li_32, li_33, li_38, li_40, li_41, li_42, li_43, li_45, li_47, li_48, li_57, li_58, li_59, li_60, li_61, li_62, li_63, li_74, li_75, li_84, li_91, li_93, li_98, li_100, li_103, li_105, li_107, li_109, li_110, li_111, li_112, li_115, li_118, li_119, li_120, li_121, li_124, li_140, li_180, li_206, li_240, li_255, li_420, li_520, li_999, li_1000, li_1771, li_8240, li_9999, li_88200, li_1000000, li_2097151, li_31, nI_add, pk_mul, zz_sub, zz_an, nI_clamp, zz_leT, zz_leF, zz_ltT, zz_ltF, zz_eqF, zz_eqT, zz_m1, zz_m2, zz_m3, zz_m4, zz_m5, zz_m6, zz_ck, zz_bl, zz_b3, zz_b2, zz_shl, zz_bt0, zz_bt1, pk_div, Nat.zero_add, Nat.add_zero, if_true, if_false, reduceIte, Nat.mul_zero, zz_or0, zz_inT, zz_inF, i3, at1, go, r1']
      · simp (disch := omega) only [fX12_compare, fX12_compare_b16, fX12_isSign, fX12_isSign_b18, fX12_compare_b68, zz_lt, li_0, li_1, li_2, li_3, li_4, li_5, li_6, li_7, li_8, li_9, li_10, li_11, li_12, li_15, li_16, li_20, li_21, li_24, li_25, li_26, li_32, li_33, li_38, li_40, li_41, li_42, li_43, li_45, li_47, li_48, li_57, li_58, li_59, li_60, li_61, li_62, li_63, li_74, li_75, li_84, li_91, li_93, li_98, li_100, li_103, li_105, li_107, li_109, li_110, li_111, li_112, li_115, li_118, li_119, li_120, li_121, li_124, li_140, li_180, li_206, li_240, li_255, li_420, li_520, li_999, li_1000, li_1771, li_8240, li_9999, li_88200, li_1000000, li_2097151, li_31, nI_add, pk_mul, zz_sub, zz_an, nI_clamp, zz_leT, zz_leF, zz_ltT, zz_ltF, zz_eqF, zz_eqT, zz_m1, zz_m2, zz_m3, zz_m4, zz_m5, zz_m6, zz_ck, zz_bl, zz_b3, zz_b2, zz_shl, zz_bt0, zz_bt1, pk_div, Nat.zero_add, Nat.add_zero, if_true, if_false, reduceIte, Nat.mul_zero, zz_or0, zz_inT, zz_inF, h4, lk, l3, r2', x2]
  by_cases q62 : bx n t p = 63
  · have zb : zn (bx n t p) = nI 62 := by rw [q62]; rfl
    have pln : p < n := bx_in (t := t) (by omega)
    rw [zb] at at1 lk
    have go := lc_gon hG f dC hf LC e2 pln
    obtain ⟨s1, s2, s3, s4⟩ := pass_both e2 e3
    have nbp := nb_ge n t (p + 1)
    obtain ⟨I3, J3, v, r | r⟩ := hsum _ _ (nb n t (p + 1)) (c0 + ops.length) (p + 1) s (m0 + ops.length) s1 s2 rfl (by omega) (by omega) (by omega) hs
    · obtain ⟨r1, r2, B, p3, a3, w3⟩ := r
      have r1' : fX2_readSum f dC (nI k) (am_up I 27 3 (nI (nb n t (p + 1)))) LC = some (nI 1, I3, LC) := r1
      have r2' := fsum_of r2
      obtain ⟨I4, J4, x1, x2, x3⟩ := join_both hG f dC dM LC LM w0 s3 s4 w3 (by omega) (o := 6) (h := h + 1) (by omega) (by omega) (by omega) hs hc hm
      have x1' : fX2_put f dC (-nI 17) I3 LC = some (I4, LC) := x1
      have x2' : fX12_put f dM (nI 8) (nI 0) J3 LM = some (J4, LM) := x2
      refine ⟨I4, J4, nI 0, Or.inl ⟨?_, ?_, OKw_x x3⟩⟩
      · simp (disch := omega) only [fX2_readComparison, fX2_comparisonOf, lj_17, zz_lt, li_0, li_1, li_2, li_3, li_4, li_5, li_6, li_7, li_8, li_9, li_10, li_11, li_12, li_15, li_16, li_20, li_21, li_24, li_25, li_26, li_32, li_33, li_38, li_40, li_41, li_42, li_43, li_45, li_47, li_48, li_57, li_58, li_59, li_60, li_61, li_62, li_63, li_74, li_75, li_84, li_91, li_93, li_98, li_100, li_103, li_105, li_107, li_109, li_110, li_111, li_112, li_115, li_118, li_119, li_120, li_121, li_124, li_140, li_180, li_206, li_240, li_255, li_420, li_520, li_999, li_1000, li_1771, li_8240, li_9999, li_88200, li_1000000, li_2097151, li_31, nI_add, pk_mul, zz_sub, zz_an, nI_clamp, zz_leT, zz_leF, zz_ltT, zz_ltF, zz_eqF, zz_eqT, zz_m1, zz_m2, zz_m3, zz_m4, zz_m5, zz_m6, zz_ck, zz_bl, zz_b3, zz_b2, zz_shl, zz_bt0, zz_bt1, pk_div, Nat.zero_add, Nat.add_zero, if_true, if_false, reduceIte, Nat.mul_zero, zz_or0, zz_inT, zz_inF, i3, at1, go, r1', x1']
      · simp (disch := omega) only [fX12_compare, fX12_compare_b16, fX12_isSign, fX12_isSign_b18, fX12_compare_b68, zz_lt, li_0, li_1, li_2, li_3, li_4, li_5, li_6, li_7, li_8, li_9, li_10, li_11, li_12, li_15, li_16, li_20, li_21, li_24, li_25, li_26, li_32, li_33, li_38, li_40, li_41, li_42, li_43, li_45, li_47, li_48, li_57, li_58, li_59, li_60, li_61, li_62, li_63, li_74, li_75, li_84, li_91, li_93, li_98, li_100, li_103, li_105, li_107, li_109, li_110, li_111, li_112, li_115, li_118, li_119, li_120, li_121, li_124, li_140, li_180, li_206, li_240, li_255, li_420, li_520, li_999, li_1000, li_1771, li_8240, li_9999, li_88200, li_1000000, li_2097151, li_31, nI_add, pk_mul, zz_sub, zz_an, nI_clamp, zz_leT, zz_leF, zz_ltT, zz_ltF, zz_eqF, zz_eqT, zz_m1, zz_m2, zz_m3, zz_m4, zz_m5, zz_m6, zz_ck, zz_bl, zz_b3, zz_b2, zz_shl, zz_bt0, zz_bt1, pk_div, Nat.zero_add, Nat.add_zero, if_true, if_false, reduceIte, Nat.mul_zero, zz_or0, zz_inT, zz_inF, h4, lk, l3, r2', x2']
    · obtain ⟨r1, r2, e, z1, z2, z3, z4⟩ := r
      have r1' : fX2_readSum f dC (nI k) (am_up I 27 3 (nI (nb n t (p + 1)))) LC = some (nI 0, I3, LC) := r1
      have r2' := fsum_of r2
      obtain ⟨J4, x2, x3, x4⟩ := mf_put f dM LM z2 hs (by omega) (nI 8) (nI 0)
      refine ⟨I3, J4, nI 0, Or.inr ⟨?_, ?_, e, z1, mf_lo x3 (by omega), FC_tr e10 (FC_tr s3 z3 (Nat.le_refl _)) (by omega), FM_tr e11 (FM_tr s4 (FM_tr z4 x4 (Nat.le_refl _)) (Nat.le_refl _)) (by omega)⟩⟩
      · simp (disch := omega) only [fX2_readComparison, fX2_comparisonOf, lj_17, zz_lt, li_0, li_1, li_2, li_3, li_4, li_5, li_6, li_7, li_8, li_9, li_10, li_11, li_12, li_15, li_16, li_20, li_21, li_24, li_25, li_26, li_32, li_33, li_38, li_40, li_41, li_42, li_43, li_45, li_47, li_48, li_57, li_58, li_59, li_60, li_61, li_62, li_63, li_74, li_75, li_84, li_91, li_93, li_98, li_100, li_103, li_105, li_107, li_109, li_110, li_111, li_112, li_115, li_118, li_119, li_120, li_121, li_124, li_140, li_180, li_206, li_240, li_255, li_420, li_520, li_999, li_1000, li_1771, li_8240, li_9999, li_88200, li_1000000, li_2097151, li_31, nI_add, pk_mul, zz_sub, zz_an, nI_clamp, zz_leT, zz_leF, zz_ltT, zz_ltF, zz_eqF, zz_eqT, zz_m1, zz_m2, zz_m3, zz_m4, zz_m5, zz_m6, zz_ck, zz_bl, zz_b3, zz_b2, zz_shl, zz_bt0, zz_bt1, pk_div, Nat.zero_add, Nat.add_zero, if_true, if_false, reduceIte, Nat.mul_zero, zz_or0, zz_inT, zz_inF, i3, at1, go, r1']
      · simp (disch := omega) only [fX12_compare, fX12_compare_b16, fX12_isSign, fX12_isSign_b18, fX12_compare_b68, zz_lt, li_0, li_1, li_2, li_3, li_4, li_5, li_6, li_7, li_8, li_9, li_10, li_11, li_12, li_15, li_16, li_20, li_21, li_24, li_25, li_26, li_32, li_33, li_38, li_40, li_41, li_42, li_43, li_45, li_47, li_48, li_57, li_58, li_59, li_60, li_61, li_62, li_63, li_74, li_75, li_84, li_91, li_93, li_98, li_100, li_103, li_105, li_107, li_109, li_110, li_111, li_112, li_115, li_118, li_119, li_120, li_121, li_124, li_140, li_180, li_206, li_240, li_255, li_420, li_520, li_999, li_1000, li_1771, li_8240, li_9999, li_88200, li_1000000, li_2097151, li_31, nI_add, pk_mul, zz_sub, zz_an, nI_clamp, zz_leT, zz_leF, zz_ltT, zz_ltF, zz_eqF, zz_eqT, zz_m1, zz_m2, zz_m3, zz_m4, zz_m5, zz_m6, zz_ck, zz_bl, zz_b3, zz_b2, zz_shl, zz_bt0, zz_bt1, pk_div, Nat.zero_add, Nat.add_zero, if_true, if_false, reduceIte, Nat.mul_zero, zz_or0, zz_inT, zz_inF, h4, lk, l3, r2', x2]
  have n1 : (zn (bx n t p) = nI 61) = False := (zn_ch (bx_le hG p) (by omega)).trans (eq_false q61)
  have n2 : (zn (bx n t p) = nI 60) = False := (zn_ch (bx_le hG p) (by omega)).trans (eq_false q60)
  have n3 : (zn (bx n t p) = nI 62) = False := (zn_ch (bx_le hG p) (by omega)).trans (eq_false q62)
  have bad := lm_bad f dM LM (PM_3 e3 p) rfl
  refine ⟨I, am_up (am_up J 0 3 (nI p)) 0 4 (nI p), nI 0, Or.inr ⟨?_, ?_, p, i3, mf_lo (mf_bad (E := E + 1) (PM_3 e3 p) (by omega) (by omega)) (by omega), e10, FM_tr e11 (FM_tr (FM_0 s _ J (Or.inl rfl) _) (FM_0 s _ _ (Or.inr (Or.inl rfl)) _) (Nat.le_refl _)) (by omega)⟩⟩
  · simp (disch := omega) only [fX2_readComparison, fX2_comparisonOf, lj_17, zz_lt, li_0, li_1, li_2, li_3, li_4, li_5, li_6, li_7, li_8, li_9, li_10, li_11, li_12, li_15, li_16, li_20, li_21, li_24, li_25, li_26, li_32, li_33, li_38, li_40, li_41, li_42, li_43, li_45, li_47, li_48, li_57, li_58, li_59, li_60, li_61, li_62, li_63, li_74, li_75, li_84, li_91, li_93, li_98, li_100, li_103, li_105, li_107, li_109, li_110, li_111, li_112, li_115, li_118, li_119, li_120, li_121, li_124, li_140, li_180, li_206, li_240, li_255, li_420, li_520, li_999, li_1000, li_1771, li_8240, li_9999, li_88200, li_1000000, li_2097151, li_31, nI_add, pk_mul, zz_sub, zz_an, nI_clamp, zz_leT, zz_leF, zz_ltT, zz_ltF, zz_eqF, zz_eqT, zz_m1, zz_m2, zz_m3, zz_m4, zz_m5, zz_m6, zz_ck, zz_bl, zz_b3, zz_b2, zz_shl, zz_bt0, zz_bt1, pk_div, Nat.zero_add, Nat.add_zero, if_true, if_false, reduceIte, Nat.mul_zero, zz_or0, zz_inT, zz_inF, i3, at1, n1, n2, n3]
  · simp (disch := omega) only [fX12_compare, fX12_compare_b16, fX12_isSign, fX12_isSign_b18, fX12_compare_b68, zz_lt, li_0, li_1, li_2, li_3, li_4, li_5, li_6, li_7, li_8, li_9, li_10, li_11, li_12, li_15, li_16, li_20, li_21, li_24, li_25, li_26, li_32, li_33, li_38, li_40, li_41, li_42, li_43, li_45, li_47, li_48, li_57, li_58, li_59, li_60, li_61, li_62, li_63, li_74, li_75, li_84, li_91, li_93, li_98, li_100, li_103, li_105, li_107, li_109, li_110, li_111, li_112, li_115, li_118, li_119, li_120, li_121, li_124, li_140, li_180, li_206, li_240, li_255, li_420, li_520, li_999, li_1000, li_1771, li_8240, li_9999, li_88200, li_1000000, li_2097151, li_31, nI_add, pk_mul, zz_sub, zz_an, nI_clamp, zz_leT, zz_leF, zz_ltT, zz_ltF, zz_eqF, zz_eqT, zz_m1, zz_m2, zz_m3, zz_m4, zz_m5, zz_m6, zz_ck, zz_bl, zz_b3, zz_b2, zz_shl, zz_bt0, zz_bt1, pk_div, Nat.zero_add, Nat.add_zero, if_true, if_false, reduceIte, Nat.mul_zero, zz_or0, zz_inT, zz_inF, h4, lk, n1, n2, n3, bad]
theorem unit_both {n : Nat} {t : Nat → Nat} (hG : GT n t) (f dC dM : Nat) (hf : 300 < f) (LC LM : am_L) {h E k : Nat} (hk : k ≤ 6) (hE : E < 500) (hE2 : 240 ≤ E) (gc gm : Nat → Int32 → Int32 → Int32 → Int32 → Int32 → am_I → am_L → Option (Int32 × am_I × am_L)) (hsum : RX n t LC LM false h E k (fun I => gX2_readSum f dC 0 (nI k) (nI 0) (nI 0) (nI 0) (nI 0) I LC) (fun J => gX12_sum f dM 0 (nI 0) (nI 0) (nI 0) (nI 0) (nI 0) J LM)) (hU : k < 6 → RX n t LC LM true (h + 1) E (k + 1) (fun I => gc 1 (nI (k + 1)) (nI 0) (nI 0) (nI 0) (nI 0) I LC) (fun J => gm 1 (nI 0) (nI 0) (nI 0) (nI 0) (nI 0) J LM)) (hC : k < 6 → RX n t LC LM true (h + 1) (E + 1) (k + 1) (fun I => gc 0 (nI (k + 1)) (nI 0) (nI 0) (nI 0) (nI 0) I LC) (fun J => gm 0 (nI 0) (nI 0) (nI 0) (nI 0) (nI 0) J LM)) : RX n t LC LM true (h + 1) (E + 1) k (fun I => fX2_readUnit_g f dC gc (nI k) I LC) (fun J => am_b2 (fX12_unit_g f dM gm J LM) (fun I L => some (nI 0, I, L))) := by
  intro I J p c a s m hI hJ hn ha hc hm hs
  have g := hG.1
  have pn : p ≤ n := by rw [← hn]; exact nb_le ha
  have at1 := lc_at hG f dC LC hI pn
  have i3 := hI.2.1
  have lk := lm_look hG f dM hf LM hJ ha
  rw [hn] at lk
  have j1 := PM_3 hJ p
  have fj1 : FM s m J (am_up J 0 3 (nI p)) := FM_0 s m J (Or.inl rfl) _
  by_cases q33 : bx n t p = 34
  · have zb : zn (bx n t p) = nI 33 := by rw [q33]; rfl
    have pln : p < n := bx_in (t := t) (by omega)
    rw [zb] at at1 lk
    by_cases k6 : k = 6
    · subst k6
      obtain ⟨J2, o1, o2, o3⟩ := opens_bad (E + 1) f dM LM j1 (by omega) (by omega)
      have n4 := mf_n1 o2
      refine ⟨I, J2, nI 0, Or.inr ⟨?_, ?_, p, i3, o2, FC_rf c I, FM_tr fj1 o3 (Nat.le_refl _)⟩⟩
      · simp (disch := omega) only [fX2_readUnit_g, fX2_readUnit_b46, zz_lt, li_0, li_1, li_2, li_3, li_4, li_5, li_6, li_7, li_8, li_9, li_10, li_11, li_12, li_15, li_16, li_20, li_21, li_24, li_25, li_26, li_32, li_33, li_38, li_40, li_41, li_42, li_43, li_45, li_47, li_48, li_57, li_58, li_59, li_60, li_61, li_62, li_63, li_74, li_75, li_84, li_91, li_93, li_98, li_100, li_103, li_105, li_107, li_109, li_110, li_111, li_112, li_115, li_118, li_119, li_120, li_121, li_124, li_140, li_180, li_206, li_240, li_255, li_420, li_520, li_999, li_1000, li_1771, li_8240, li_9999, li_88200, li_1000000, li_2097151, li_31, nI_add, pk_mul, zz_sub, zz_an, nI_clamp, zz_leT, zz_leF, zz_ltT, zz_ltF, zz_eqF, zz_eqT, zz_m1, zz_m2, zz_m3, zz_m4, zz_m5, zz_m6, zz_ck, zz_bl, zz_b3, zz_b2, zz_shl, zz_bt0, zz_bt1, pk_div, Nat.zero_add, Nat.add_zero, if_true, if_false, reduceIte, Nat.mul_zero, zz_or0, zz_inT, zz_inF, i3, at1]
      · simp (disch := omega) only [fX12_unit_g, zz_lt, li_0, li_1, li_2, li_3, li_4, li_5, li_6, li_7, li_8, li_9, li_10, li_11, li_12, li_15, li_16, li_20, li_21, li_24, li_25, li_26, li_32, li_33, li_38, li_40, li_41, li_42, li_43, li_45, li_47, li_48, li_57, li_58, li_59, li_60, li_61, li_62, li_63, li_74, li_75, li_84, li_91, li_93, li_98, li_100, li_103, li_105, li_107, li_109, li_110, li_111, li_112, li_115, li_118, li_119, li_120, li_121, li_124, li_140, li_180, li_206, li_240, li_255, li_420, li_520, li_999, li_1000, li_1771, li_8240, li_9999, li_88200, li_1000000, li_2097151, li_31, nI_add, pk_mul, zz_sub, zz_an, nI_clamp, zz_leT, zz_leF, zz_ltT, zz_ltF, zz_eqF, zz_eqT, zz_m1, zz_m2, zz_m3, zz_m4, zz_m5, zz_m6, zz_ck, zz_bl, zz_b3, zz_b2, zz_shl, zz_bt0, zz_bt1, pk_div, Nat.zero_add, Nat.add_zero, if_true, if_false, reduceIte, Nat.mul_zero, zz_or0, zz_inT, zz_inF, lk, o1, n4]
    · have k6' : k < 6 := by omega
      have go := lc_gon hG f dC hf LC hI pln
      have pI := PC_go hI (nb n t (p + 1))
      obtain ⟨o1, o2, o3⟩ := opens_ok f dM LM j1 k6' (by omega)
      have o4 := o2.2.2.1
      obtain ⟨J2, hJ2⟩ : ∃ J2, J2 = am_up (am_up (am_up J 0 3 (nI p)) 0 5 (nI (k + 1))) 0 3 (nI (p + 1)) := ⟨_, rfl⟩
      rw [← hJ2] at o1 o2 o3 o4
      have nbp := nb_ge n t (p + 1)
      obtain ⟨I3, J3, v, r | r⟩ := hU k6' _ _ (nb n t (p + 1)) c (p + 1) s m pI o2 rfl (by omega) (by omega) (by omega) hs
      · obtain ⟨r1, r2, B, p3, a3, b1, b2, b3, b4, b5, b6, b7, b8, b9, b10, b11⟩ := r
        have r1' : gc 1 (nI (k + 1)) (nI 0) (nI 0) (nI 0) (nI 0) (am_up I 27 3 (nI (nb n t (p + 1)))) LC = some (nI 1, I3, LC) := r1
        have r2' : gm 1 (nI 0) (nI 0) (nI 0) (nI 0) (nI 0) J2 LM = some (v, J3, LM) := r2
        have p3n : p3 ≤ n := by rw [← b4]; exact nb_le b5
        have len : (B ++ [30000]).length = B.length + 1 := by simp only [List.length_append, List.length_cons, List.length_nil]
        have pc := lc_put f dC LC b2 (by omega) (-nI 20)
        have pm := lm_put f dM LM b3.2.2.2.2.1 b3.2.2.2.2.2 hs (by omega) (nI 9) (nI 0)
        have qm := PM_put b3 (nI 9) (nI 0)
        have fp := FC_put I3 (c + B.length) (-nI 20) (nI (c + B.length + 1))
        have fq := FM_put J3 s (m + B.length) (nI 9) (nI 0) (nI (m + B.length + 1))
        have v2 : (am_up (am_up (am_up J3 2 (520 * s + (m + B.length)) (nI 9)) 3 (520 * s + (m + B.length)) (nI 0)) 4 s (nI (m + B.length + 1))) 2 (520 * s + (m + B.length)) = nI 9 := put_pm.1
        have v3 : (am_up (am_up (am_up J3 2 (520 * s + (m + B.length)) (nI 9)) 3 (520 * s + (m + B.length)) (nI 0)) 4 s (nI (m + B.length + 1))) 3 (520 * s + (m + B.length)) = nI 0 := put_pm.2
        obtain ⟨J4, hJ4⟩ : ∃ J4, J4 = am_up (am_up (am_up J3 2 (520 * s + (m + B.length)) (nI 9)) 3 (520 * s + (m + B.length)) (nI 0)) 4 s (nI (m + B.length + 1)) := ⟨_, rfl⟩
        rw [← hJ4] at pm qm fq v2 v3
        have u5 := qm.2.2.2.1
        refine ⟨am_up (am_up I3 28 (c + B.length) (-nI 20)) 27 2 (nI (c + B.length + 1)), am_up J4 0 5 (nI k), nI 0, Or.inl ⟨?_, ?_, B ++ [30000], p3, a3, EX_not b1, ?_, ?_, b4, b5, by omega, ?_, ?_, ?_, FC_tr (FC_27 c I 3 _) (FC_tr b10 fp (by omega)) (Nat.le_refl _), FM_tr fj1 (FM_tr o3 (FM_tr b11 (FM_tr fq (FM_0 s _ J4 (Or.inr (Or.inr rfl)) _) (Nat.le_refl _)) (by omega)) (Nat.le_refl _)) (Nat.le_refl _)⟩⟩
        · simp (disch := omega) only [fX2_readUnit_g, fX2_readUnit_b46, zz_lt, li_0, li_1, li_2, li_3, li_4, li_5, li_6, li_7, li_8, li_9, li_10, li_11, li_12, li_15, li_16, li_20, li_21, li_24, li_25, li_26, li_32, li_33, li_38, li_40, li_41, li_42, li_43, li_45, li_47, li_48, li_57, li_58, li_59, li_60, li_61, li_62, li_63, li_74, li_75, li_84, li_91, li_93, li_98, li_100, li_103, li_105, li_107, li_109, li_110, li_111, li_112, li_115, li_118, li_119, li_120, li_121, li_124, li_140, li_180, li_206, li_240, li_255, li_420, li_520, li_999, li_1000, li_1771, li_8240, li_9999, li_88200, li_1000000, li_2097151, li_31, nI_add, pk_mul, zz_sub, zz_an, nI_clamp, zz_leT, zz_leF, zz_ltT, zz_ltF, zz_eqF, zz_eqT, zz_m1, zz_m2, zz_m3, zz_m4, zz_m5, zz_m6, zz_ck, zz_bl, zz_b3, zz_b2, zz_shl, zz_bt0, zz_bt1, pk_div, Nat.zero_add, Nat.add_zero, if_true, if_false, reduceIte, Nat.mul_zero, zz_or0, zz_inT, zz_inF, i3, at1, go, r1', pc]
        · simp (disch := omega) only [fX12_unit_g, zz_lt, li_0, li_1, li_2, li_3, li_4, li_5, li_6, li_7, li_8, li_9, li_10, li_11, li_12, li_15, li_16, li_20, li_21, li_24, li_25, li_26, li_32, li_33, li_38, li_40, li_41, li_42, li_43, li_45, li_47, li_48, li_57, li_58, li_59, li_60, li_61, li_62, li_63, li_74, li_75, li_84, li_91, li_93, li_98, li_100, li_103, li_105, li_107, li_109, li_110, li_111, li_112, li_115, li_118, li_119, li_120, li_121, li_124, li_140, li_180, li_206, li_240, li_255, li_420, li_520, li_999, li_1000, li_1771, li_8240, li_9999, li_88200, li_1000000, li_2097151, li_31, nI_add, pk_mul, zz_sub, zz_an, nI_clamp, zz_leT, zz_leF, zz_ltT, zz_ltF, zz_eqF, zz_eqT, zz_m1, zz_m2, zz_m3, zz_m4, zz_m5, zz_m6, zz_ck, zz_bl, zz_b3, zz_b2, zz_shl, zz_bt0, zz_bt1, pk_div, Nat.zero_add, Nat.add_zero, if_true, if_false, reduceIte, Nat.mul_zero, zz_or0, zz_inT, zz_inF, lk, o1, o4, r2', pm, u5, Nat.add_sub_cancel]
        · rw [len]; exact PC_put b2 (-nI 20)
        · rw [len]; exact PM_5 qm k
        · refine (RQ_app B _ _).mpr ⟨RQ_ext B _ (fun j _ j2 => fp.2 j j2) b7, ?_, trivial⟩
          rw [am_up_ne (by omega), up_s rfl]; rfl
        · refine (RQ_app B _ _).mpr ⟨RQ_ext B _ (fun j _ j2 => ?_) b8, ?_, trivial⟩
          · rw [am_up_ne (by omega)]; exact fq.2.2.1 j (by omega)
          · rw [show 520 * s + m + B.length = 520 * s + (m + B.length) by omega, am_up_ne (by omega), v2]; rfl
        · refine (RQ_app B _ _).mpr ⟨RQ_ext B _ (fun j _ j2 => ?_) b9, ?_, trivial⟩
          · rw [am_up_ne (by omega)]; exact fq.2.2.2.1 j (by omega)
          · rw [show 520 * s + m + B.length = 520 * s + (m + B.length) by omega, am_up_ne (by omega), v3]; rfl
      · obtain ⟨r1, r2, e, z1, z2, z3, z4⟩ := r
        have r1' : gc 1 (nI (k + 1)) (nI 0) (nI 0) (nI 0) (nI 0) (am_up I 27 3 (nI (nb n t (p + 1)))) LC = some (nI 0, I3, LC) := r1
        have r2' : gm 1 (nI 0) (nI 0) (nI 0) (nI 0) (nI 0) J2 LM = some (v, J3, LM) := r2
        obtain ⟨J4, x2, x3, x4⟩ := mf_put f dM LM z2 hs (by omega) (nI 9) (nI 0)
        refine ⟨I3, am_up J4 0 5 (J4 0 5 - nI 1), nI 0, Or.inr ⟨?_, ?_, e, z1, mf_0 x3 (Or.inr rfl) _, FC_tr (FC_27 c I 3 _) z3 (Nat.le_refl _), FM_tr fj1 (FM_tr o3 (FM_tr z4 (FM_tr x4 (FM_0 s _ J4 (Or.inr (Or.inr rfl)) _) (Nat.le_refl _)) (Nat.le_refl _)) (Nat.le_refl _)) (Nat.le_refl _)⟩⟩
        · simp (disch := omega) only [fX2_readUnit_g, fX2_readUnit_b46, zz_lt, li_0, li_1, li_2, li_3, li_4, li_5, li_6, li_7, li_8, li_9, li_10, li_11, li_12, li_15, li_16, li_20, li_21, li_24, li_25, li_26, li_32, li_33, li_38, li_40, li_41, li_42, li_43, li_45, li_47, li_48, li_57, li_58, li_59, li_60, li_61, li_62, li_63, li_74, li_75, li_84, li_91, li_93, li_98, li_100, li_103, li_105, li_107, li_109, li_110, li_111, li_112, li_115, li_118, li_119, li_120, li_121, li_124, li_140, li_180, li_206, li_240, li_255, li_420, li_520, li_999, li_1000, li_1771, li_8240, li_9999, li_88200, li_1000000, li_2097151, li_31, nI_add, pk_mul, zz_sub, zz_an, nI_clamp, zz_leT, zz_leF, zz_ltT, zz_ltF, zz_eqF, zz_eqT, zz_m1, zz_m2, zz_m3, zz_m4, zz_m5, zz_m6, zz_ck, zz_bl, zz_b3, zz_b2, zz_shl, zz_bt0, zz_bt1, pk_div, Nat.zero_add, Nat.add_zero, if_true, if_false, reduceIte, Nat.mul_zero, zz_or0, zz_inT, zz_inF, i3, at1, go, r1']
        · simp (disch := omega) only [fX12_unit_g, zz_lt, li_0, li_1, li_2, li_3, li_4, li_5, li_6, li_7, li_8, li_9, li_10, li_11, li_12, li_15, li_16, li_20, li_21, li_24, li_25, li_26, li_32, li_33, li_38, li_40, li_41, li_42, li_43, li_45, li_47, li_48, li_57, li_58, li_59, li_60, li_61, li_62, li_63, li_74, li_75, li_84, li_91, li_93, li_98, li_100, li_103, li_105, li_107, li_109, li_110, li_111, li_112, li_115, li_118, li_119, li_120, li_121, li_124, li_140, li_180, li_206, li_240, li_255, li_420, li_520, li_999, li_1000, li_1771, li_8240, li_9999, li_88200, li_1000000, li_2097151, li_31, nI_add, pk_mul, zz_sub, zz_an, nI_clamp, zz_leT, zz_leF, zz_ltT, zz_ltF, zz_eqF, zz_eqT, zz_m1, zz_m2, zz_m3, zz_m4, zz_m5, zz_m6, zz_ck, zz_bl, zz_b3, zz_b2, zz_shl, zz_bt0, zz_bt1, pk_div, Nat.zero_add, Nat.add_zero, if_true, if_false, reduceIte, Nat.mul_zero, zz_or0, zz_inT, zz_inF, lk, o1, o4, r2', x2]
  by_cases q40 : bx n t p = 41
  · have zb : zn (bx n t p) = nI 40 := by rw [q40]; rfl
    have pln : p < n := bx_in (t := t) (by omega)
    rw [zb] at at1 lk
    by_cases k6 : k = 6
    · subst k6
      obtain ⟨J2, o1, o2, o3⟩ := opens_bad (E + 1) f dM LM j1 (by omega) (by omega)
      have n4 := mf_n1 o2
      refine ⟨I, J2, nI 0, Or.inr ⟨?_, ?_, p, i3, o2, FC_rf c I, FM_tr fj1 o3 (Nat.le_refl _)⟩⟩
      · simp (disch := omega) only [fX2_readUnit_g, fX2_readUnit_b46, zz_lt, li_0, li_1, li_2, li_3, li_4, li_5, li_6, li_7, li_8, li_9, li_10, li_11, li_12, li_15, li_16, li_20, li_21, li_24, li_25, li_26, li_32, li_33, li_38, li_40, li_41, li_42, li_43, li_45, li_47, li_48, li_57, li_58, li_59, li_60, li_61, li_62, li_63, li_74, li_75, li_84, li_91, li_93, li_98, li_100, li_103, li_105, li_107, li_109, li_110, li_111, li_112, li_115, li_118, li_119, li_120, li_121, li_124, li_140, li_180, li_206, li_240, li_255, li_420, li_520, li_999, li_1000, li_1771, li_8240, li_9999, li_88200, li_1000000, li_2097151, li_31, nI_add, pk_mul, zz_sub, zz_an, nI_clamp, zz_leT, zz_leF, zz_ltT, zz_ltF, zz_eqF, zz_eqT, zz_m1, zz_m2, zz_m3, zz_m4, zz_m5, zz_m6, zz_ck, zz_bl, zz_b3, zz_b2, zz_shl, zz_bt0, zz_bt1, pk_div, Nat.zero_add, Nat.add_zero, if_true, if_false, reduceIte, Nat.mul_zero, zz_or0, zz_inT, zz_inF, i3, at1]
      · simp (disch := omega) only [fX12_unit_g, zz_lt, li_0, li_1, li_2, li_3, li_4, li_5, li_6, li_7, li_8, li_9, li_10, li_11, li_12, li_15, li_16, li_20, li_21, li_24, li_25, li_26, li_32, li_33, li_38, li_40, li_41, li_42, li_43, li_45, li_47, li_48, li_57, li_58, li_59, li_60, li_61, li_62, li_63, li_74, li_75, li_84, li_91, li_93, li_98, li_100, li_103, li_105, li_107, li_109, li_110, li_111, li_112, li_115, li_118, li_119, li_120, li_121, li_124, li_140, li_180, li_206, li_240, li_255, li_420, li_520, li_999, li_1000, li_1771, li_8240, li_9999, li_88200, li_1000000, li_2097151, li_31, nI_add, pk_mul, zz_sub, zz_an, nI_clamp, zz_leT, zz_leF, zz_ltT, zz_ltF, zz_eqF, zz_eqT, zz_m1, zz_m2, zz_m3, zz_m4, zz_m5, zz_m6, zz_ck, zz_bl, zz_b3, zz_b2, zz_shl, zz_bt0, zz_bt1, pk_div, Nat.zero_add, Nat.add_zero, if_true, if_false, reduceIte, Nat.mul_zero, zz_or0, zz_inT, zz_inF, lk, o1, n4]
    · have k6' : k < 6 := by omega
      have go := lc_gon hG f dC hf LC hI pln
      have pI := PC_go hI (nb n t (p + 1))
      obtain ⟨o1, o2, o3⟩ := opens_ok f dM LM j1 k6' (by omega)
      have o4 := o2.2.2.1
      obtain ⟨J2, hJ2⟩ : ∃ J2, J2 = am_up (am_up (am_up J 0 3 (nI p)) 0 5 (nI (k + 1))) 0 3 (nI (p + 1)) := ⟨_, rfl⟩
      rw [← hJ2] at o1 o2 o3 o4
      have nbp := nb_ge n t (p + 1)
      obtain ⟨I3, J3, v, r | r⟩ := hC k6' _ _ (nb n t (p + 1)) c (p + 1) s m pI o2 rfl (by omega) (by omega) (by omega) hs
      · obtain ⟨r1, r2, B, p3, a3, b1, b2, b3, b4, b5, b6, b7, b8, b9, b10, b11⟩ := r
        have r1' : gc 0 (nI (k + 1)) (nI 0) (nI 0) (nI 0) (nI 0) (am_up I 27 3 (nI (nb n t (p + 1)))) LC = some (nI 1, I3, LC) := r1
        have r2' : gm 0 (nI 0) (nI 0) (nI 0) (nI 0) (nI 0) J2 LM = some (v, J3, LM) := r2
        have p3n : p3 ≤ n := by rw [← b4]; exact nb_le b5
        obtain ⟨J4, y | y⟩ := cl_both (E := E + 1) hG f dC dM hf LC LM b2 b3 hk b5 b4 (by omega) (ch := 41) (by omega)
        · obtain ⟨y1, y2, y3, y4, y5, y6, y7⟩ := y
          have nbq := nb_ge n t (p3 + 1)
          refine ⟨am_up I3 27 3 (nI (nb n t (p3 + 1))), J4, nI 0, Or.inl ⟨?_, ?_, B, nb n t (p3 + 1), p3 + 1, b1, PC_go b2 _, y4, rfl, by omega, by omega, by rw [am_up_ne (by omega)]; exact b7, by rw [y6]; exact b8, by rw [y7]; exact b9, FC_tr (FC_tr (FC_27 c I 3 _) b10 (Nat.le_refl _)) (FC_27 c I3 3 _) (Nat.le_refl _), FM_tr fj1 (FM_tr o3 (FM_tr b11 y5 (by omega)) (Nat.le_refl _)) (Nat.le_refl _)⟩⟩
          · simp (disch := omega) only [fX2_readUnit_g, fX2_readUnit_b46, zz_lt, li_0, li_1, li_2, li_3, li_4, li_5, li_6, li_7, li_8, li_9, li_10, li_11, li_12, li_15, li_16, li_20, li_21, li_24, li_25, li_26, li_32, li_33, li_38, li_40, li_41, li_42, li_43, li_45, li_47, li_48, li_57, li_58, li_59, li_60, li_61, li_62, li_63, li_74, li_75, li_84, li_91, li_93, li_98, li_100, li_103, li_105, li_107, li_109, li_110, li_111, li_112, li_115, li_118, li_119, li_120, li_121, li_124, li_140, li_180, li_206, li_240, li_255, li_420, li_520, li_999, li_1000, li_1771, li_8240, li_9999, li_88200, li_1000000, li_2097151, li_31, nI_add, pk_mul, zz_sub, zz_an, nI_clamp, zz_leT, zz_leF, zz_ltT, zz_ltF, zz_eqF, zz_eqT, zz_m1, zz_m2, zz_m3, zz_m4, zz_m5, zz_m6, zz_ck, zz_bl, zz_b3, zz_b2, zz_shl, zz_bt0, zz_bt1, pk_div, Nat.zero_add, Nat.add_zero, if_true, if_false, reduceIte, Nat.mul_zero, zz_or0, zz_inT, zz_inF, i3, at1, go, r1', y1]
          · simp (disch := omega) only [fX12_unit_g, zz_lt, li_0, li_1, li_2, li_3, li_4, li_5, li_6, li_7, li_8, li_9, li_10, li_11, li_12, li_15, li_16, li_20, li_21, li_24, li_25, li_26, li_32, li_33, li_38, li_40, li_41, li_42, li_43, li_45, li_47, li_48, li_57, li_58, li_59, li_60, li_61, li_62, li_63, li_74, li_75, li_84, li_91, li_93, li_98, li_100, li_103, li_105, li_107, li_109, li_110, li_111, li_112, li_115, li_118, li_119, li_120, li_121, li_124, li_140, li_180, li_206, li_240, li_255, li_420, li_520, li_999, li_1000, li_1771, li_8240, li_9999, li_88200, li_1000000, li_2097151, li_31, nI_add, pk_mul, zz_sub, zz_an, nI_clamp, zz_leT, zz_leF, zz_ltT, zz_ltF, zz_eqF, zz_eqT, zz_m1, zz_m2, zz_m3, zz_m4, zz_m5, zz_m6, zz_ck, zz_bl, zz_b3, zz_b2, zz_shl, zz_bt0, zz_bt1, pk_div, Nat.zero_add, Nat.add_zero, if_true, if_false, reduceIte, Nat.mul_zero, zz_or0, zz_inT, zz_inF, lk, o1, o4, r2', y2]
        · obtain ⟨y1, y2, y3, y4⟩ := y
          refine ⟨I3, J4, nI 0, Or.inr ⟨?_, ?_, p3, b2.2.1, mf_lo y3 (by omega), FC_tr (FC_27 c I 3 _) b10 (Nat.le_refl _), FM_tr fj1 (FM_tr o3 (FM_tr b11 y4 (by omega)) (Nat.le_refl _)) (Nat.le_refl _)⟩⟩
          · simp (disch := omega) only [fX2_readUnit_g, fX2_readUnit_b46, zz_lt, li_0, li_1, li_2, li_3, li_4, li_5, li_6, li_7, li_8, li_9, li_10, li_11, li_12, li_15, li_16, li_20, li_21, li_24, li_25, li_26, li_32, li_33, li_38, li_40, li_41, li_42, li_43, li_45, li_47, li_48, li_57, li_58, li_59, li_60, li_61, li_62, li_63, li_74, li_75, li_84, li_91, li_93, li_98, li_100, li_103, li_105, li_107, li_109, li_110, li_111, li_112, li_115, li_118, li_119, li_120, li_121, li_124, li_140, li_180, li_206, li_240, li_255, li_420, li_520, li_999, li_1000, li_1771, li_8240, li_9999, li_88200, li_1000000, li_2097151, li_31, nI_add, pk_mul, zz_sub, zz_an, nI_clamp, zz_leT, zz_leF, zz_ltT, zz_ltF, zz_eqF, zz_eqT, zz_m1, zz_m2, zz_m3, zz_m4, zz_m5, zz_m6, zz_ck, zz_bl, zz_b3, zz_b2, zz_shl, zz_bt0, zz_bt1, pk_div, Nat.zero_add, Nat.add_zero, if_true, if_false, reduceIte, Nat.mul_zero, zz_or0, zz_inT, zz_inF, i3, at1, go, r1', y1]
          · simp (disch := omega) only [fX12_unit_g, zz_lt, li_0, li_1, li_2, li_3, li_4, li_5, li_6, li_7, li_8, li_9, li_10, li_11, li_12, li_15, li_16, li_20, li_21, li_24, li_25, li_26, li_32, li_33, li_38, li_40, li_41, li_42, li_43, li_45, li_47, li_48, li_57, li_58, li_59, li_60, li_61, li_62, li_63, li_74, li_75, li_84, li_91, li_93, li_98, li_100, li_103, li_105, li_107, li_109, li_110, li_111, li_112, li_115, li_118, li_119, li_120, li_121, li_124, li_140, li_180, li_206, li_240, li_255, li_420, li_520, li_999, li_1000, li_1771, li_8240, li_9999, li_88200, li_1000000, li_2097151, li_31, nI_add, pk_mul, zz_sub, zz_an, nI_clamp, zz_leT, zz_leF, zz_ltT, zz_ltF, zz_eqF, zz_eqT, zz_m1, zz_m2, zz_m3, zz_m4, zz_m5, zz_m6, zz_ck, zz_bl, zz_b3, zz_b2, zz_shl, zz_bt0, zz_bt1, pk_div, Nat.zero_add, Nat.add_zero, if_true, if_false, reduceIte, Nat.mul_zero, zz_or0, zz_inT, zz_inF, lk, o1, o4, r2', y2]
      · obtain ⟨r1, r2, e, z1, z2, z3, z4⟩ := r
        have r1' : gc 0 (nI (k + 1)) (nI 0) (nI 0) (nI 0) (nI 0) (am_up I 27 3 (nI (nb n t (p + 1)))) LC = some (nI 0, I3, LC) := r1
        have r2' : gm 0 (nI 0) (nI 0) (nI 0) (nI 0) (nI 0) J2 LM = some (v, J3, LM) := r2
        obtain ⟨J4, y1, y2, y3⟩ := cl_err f dM LM z2 (nI 41)
        refine ⟨I3, J4, nI 0, Or.inr ⟨?_, ?_, e, z1, y2, FC_tr (FC_27 c I 3 _) z3 (Nat.le_refl _), FM_tr fj1 (FM_tr o3 (FM_tr z4 y3 (Nat.le_refl _)) (Nat.le_refl _)) (Nat.le_refl _)⟩⟩
        · simp (disch := omega) only [fX2_readUnit_g, fX2_readUnit_b46, zz_lt, li_0, li_1, li_2, li_3, li_4, li_5, li_6, li_7, li_8, li_9, li_10, li_11, li_12, li_15, li_16, li_20, li_21, li_24, li_25, li_26, li_32, li_33, li_38, li_40, li_41, li_42, li_43, li_45, li_47, li_48, li_57, li_58, li_59, li_60, li_61, li_62, li_63, li_74, li_75, li_84, li_91, li_93, li_98, li_100, li_103, li_105, li_107, li_109, li_110, li_111, li_112, li_115, li_118, li_119, li_120, li_121, li_124, li_140, li_180, li_206, li_240, li_255, li_420, li_520, li_999, li_1000, li_1771, li_8240, li_9999, li_88200, li_1000000, li_2097151, li_31, nI_add, pk_mul, zz_sub, zz_an, nI_clamp, zz_leT, zz_leF, zz_ltT, zz_ltF, zz_eqF, zz_eqT, zz_m1, zz_m2, zz_m3, zz_m4, zz_m5, zz_m6, zz_ck, zz_bl, zz_b3, zz_b2, zz_shl, zz_bt0, zz_bt1, pk_div, Nat.zero_add, Nat.add_zero, if_true, if_false, reduceIte, Nat.mul_zero, zz_or0, zz_inT, zz_inF, i3, at1, go, r1']
        · simp (disch := omega) only [fX12_unit_g, zz_lt, li_0, li_1, li_2, li_3, li_4, li_5, li_6, li_7, li_8, li_9, li_10, li_11, li_12, li_15, li_16, li_20, li_21, li_24, li_25, li_26, li_32, li_33, li_38, li_40, li_41, li_42, li_43, li_45, li_47, li_48, li_57, li_58, li_59, li_60, li_61, li_62, li_63, li_74, li_75, li_84, li_91, li_93, li_98, li_100, li_103, li_105, li_107, li_109, li_110, li_111, li_112, li_115, li_118, li_119, li_120, li_121, li_124, li_140, li_180, li_206, li_240, li_255, li_420, li_520, li_999, li_1000, li_1771, li_8240, li_9999, li_88200, li_1000000, li_2097151, li_31, nI_add, pk_mul, zz_sub, zz_an, nI_clamp, zz_leT, zz_leF, zz_ltT, zz_ltF, zz_eqF, zz_eqT, zz_m1, zz_m2, zz_m3, zz_m4, zz_m5, zz_m6, zz_ck, zz_bl, zz_b3, zz_b2, zz_shl, zz_bt0, zz_bt1, pk_div, Nat.zero_add, Nat.add_zero, if_true, if_false, reduceIte, Nat.mul_zero, zz_or0, zz_inT, zz_inF, lk, o1, o4, r2', y1]
  have n1 : (zn (bx n t p) = nI 33) = False := (zn_ch (bx_le hG p) (by omega)).trans (eq_false q33)
  have n2 : (zn (bx n t p) = nI 40) = False := (zn_ch (bx_le hG p) (by omega)).trans (eq_false q40)
  have np : nb n t p = p := by rw [← hn]; exact nb_id ha
  obtain ⟨I3, J3, v, r | r⟩ := hsum I _ p c p s m hI j1 np pn hc hm hs
  · obtain ⟨r1, r2, B, p3, a3, w3⟩ := r
    have r1' : fX2_readSum f dC (nI k) I LC = some (nI 1, I3, LC) := r1
    have r2' := fsum_of r2
    have h4 : J3 0 4 = -nI 1 := w3.2.2.1.2.2.1
    obtain ⟨I4, J4, v', y | y⟩ := cmp_both hG f dC dM hf LC LM hE hE2 hsum I J I3 J3 p c m s B p3 a3 (OKw_b (FC_rf c I) fj1 w3) hc hm hs
    · obtain ⟨y1, y2, y3⟩ := y
      have y1' : fX2_readComparison f dC (nI k) I3 LC = some (nI 1, I4, LC) := y1
      obtain ⟨J5, c1, c2⟩ := b2_some y2
      refine ⟨I4, J4, nI 0, Or.inl ⟨?_, ?_, y3⟩⟩
      · simp (disch := omega) only [fX2_readUnit_g, fX2_readUnit_b46, zz_lt, li_0, li_1, li_2, li_3, li_4, li_5, li_6, li_7, li_8, li_9, li_10, li_11, li_12, li_15, li_16, li_20, li_21, li_24, li_25, li_26, li_32, li_33, li_38, li_40, li_41, li_42, li_43, li_45, li_47, li_48, li_57, li_58, li_59, li_60, li_61, li_62, li_63, li_74, li_75, li_84, li_91, li_93, li_98, li_100, li_103, li_105, li_107, li_109, li_110, li_111, li_112, li_115, li_118, li_119, li_120, li_121, li_124, li_140, li_180, li_206, li_240, li_255, li_420, li_520, li_999, li_1000, li_1771, li_8240, li_9999, li_88200, li_1000000, li_2097151, li_31, nI_add, pk_mul, zz_sub, zz_an, nI_clamp, zz_leT, zz_leF, zz_ltT, zz_ltF, zz_eqF, zz_eqT, zz_m1, zz_m2, zz_m3, zz_m4, zz_m5, zz_m6, zz_ck, zz_bl, zz_b3, zz_b2, zz_shl, zz_bt0, zz_bt1, pk_div, Nat.zero_add, Nat.add_zero, if_true, if_false, reduceIte, Nat.mul_zero, zz_or0, zz_inT, zz_inF, i3, at1, n1, n2, r1', y1']
      · simp (disch := omega) only [fX12_unit_g, zz_lt, li_0, li_1, li_2, li_3, li_4, li_5, li_6, li_7, li_8, li_9, li_10, li_11, li_12, li_15, li_16, li_20, li_21, li_24, li_25, li_26, li_32, li_33, li_38, li_40, li_41, li_42, li_43, li_45, li_47, li_48, li_57, li_58, li_59, li_60, li_61, li_62, li_63, li_74, li_75, li_84, li_91, li_93, li_98, li_100, li_103, li_105, li_107, li_109, li_110, li_111, li_112, li_115, li_118, li_119, li_120, li_121, li_124, li_140, li_180, li_206, li_240, li_255, li_420, li_520, li_999, li_1000, li_1771, li_8240, li_9999, li_88200, li_1000000, li_2097151, li_31, nI_add, pk_mul, zz_sub, zz_an, nI_clamp, zz_leT, zz_leF, zz_ltT, zz_ltF, zz_eqF, zz_eqT, zz_m1, zz_m2, zz_m3, zz_m4, zz_m5, zz_m6, zz_ck, zz_bl, zz_b3, zz_b2, zz_shl, zz_bt0, zz_bt1, pk_div, Nat.zero_add, Nat.add_zero, if_true, if_false, reduceIte, Nat.mul_zero, zz_or0, zz_inT, zz_inF, lk, n1, n2, r2', h4, c1, c2]
    · obtain ⟨y1, y2, y3⟩ := y
      have y1' : fX2_readComparison f dC (nI k) I3 LC = some (nI 0, I4, LC) := y1
      obtain ⟨J5, c1, c2⟩ := b2_some y2
      refine ⟨I4, J4, nI 0, Or.inr ⟨?_, ?_, y3⟩⟩
      · simp (disch := omega) only [fX2_readUnit_g, fX2_readUnit_b46, zz_lt, li_0, li_1, li_2, li_3, li_4, li_5, li_6, li_7, li_8, li_9, li_10, li_11, li_12, li_15, li_16, li_20, li_21, li_24, li_25, li_26, li_32, li_33, li_38, li_40, li_41, li_42, li_43, li_45, li_47, li_48, li_57, li_58, li_59, li_60, li_61, li_62, li_63, li_74, li_75, li_84, li_91, li_93, li_98, li_100, li_103, li_105, li_107, li_109, li_110, li_111, li_112, li_115, li_118, li_119, li_120, li_121, li_124, li_140, li_180, li_206, li_240, li_255, li_420, li_520, li_999, li_1000, li_1771, li_8240, li_9999, li_88200, li_1000000, li_2097151, li_31, nI_add, pk_mul, zz_sub, zz_an, nI_clamp, zz_leT, zz_leF, zz_ltT, zz_ltF, zz_eqF, zz_eqT, zz_m1, zz_m2, zz_m3, zz_m4, zz_m5, zz_m6, zz_ck, zz_bl, zz_b3, zz_b2, zz_shl, zz_bt0, zz_bt1, pk_div, Nat.zero_add, Nat.add_zero, if_true, if_false, reduceIte, Nat.mul_zero, zz_or0, zz_inT, zz_inF, i3, at1, n1, n2, r1', y1']
      · simp (disch := omega) only [fX12_unit_g, zz_lt, li_0, li_1, li_2, li_3, li_4, li_5, li_6, li_7, li_8, li_9, li_10, li_11, li_12, li_15, li_16, li_20, li_21, li_24, li_25, li_26, li_32, li_33, li_38, li_40, li_41, li_42, li_43, li_45, li_47, li_48, li_57, li_58, li_59, li_60, li_61, li_62, li_63, li_74, li_75, li_84, li_91, li_93, li_98, li_100, li_103, li_105, li_107, li_109, li_110, li_111, li_112, li_115, li_118, li_119, li_120, li_121, li_124, li_140, li_180, li_206, li_240, li_255, li_420, li_520, li_999, li_1000, li_1771, li_8240, li_9999, li_88200, li_1000000, li_2097151, li_31, nI_add, pk_mul, zz_sub, zz_an, nI_clamp, zz_leT, zz_leF, zz_ltT, zz_ltF, zz_eqF, zz_eqT, zz_m1, zz_m2, zz_m3, zz_m4, zz_m5, zz_m6, zz_ck, zz_bl, zz_b3, zz_b2, zz_shl, zz_bt0, zz_bt1, pk_div, Nat.zero_add, Nat.add_zero, if_true, if_false, reduceIte, Nat.mul_zero, zz_or0, zz_inT, zz_inF, lk, n1, n2, r2', h4, c1, c2]
  · obtain ⟨r1, r2, e, z1, z2, z3, z4⟩ := r
    have r1' : fX2_readSum f dC (nI k) I LC = some (nI 0, I3, LC) := r1
    have r2' := fsum_of r2
    have n4 := mf_n1 z2
    refine ⟨I3, J3, nI 0, Or.inr ⟨?_, ?_, e, z1, mf_hi z2 (by omega), z3, FM_tr fj1 z4 (Nat.le_refl _)⟩⟩
    · simp (disch := omega) only [fX2_readUnit_g, fX2_readUnit_b46, zz_lt, li_0, li_1, li_2, li_3, li_4, li_5, li_6, li_7, li_8, li_9, li_10, li_11, li_12, li_15, li_16, li_20, li_21, li_24, li_25, li_26, li_32, li_33, li_38, li_40, li_41, li_42, li_43, li_45, li_47, li_48, li_57, li_58, li_59, li_60, li_61, li_62, li_63, li_74, li_75, li_84, li_91, li_93, li_98, li_100, li_103, li_105, li_107, li_109, li_110, li_111, li_112, li_115, li_118, li_119, li_120, li_121, li_124, li_140, li_180, li_206, li_240, li_255, li_420, li_520, li_999, li_1000, li_1771, li_8240, li_9999, li_88200, li_1000000, li_2097151, li_31, nI_add, pk_mul, zz_sub, zz_an, nI_clamp, zz_leT, zz_leF, zz_ltT, zz_ltF, zz_eqF, zz_eqT, zz_m1, zz_m2, zz_m3, zz_m4, zz_m5, zz_m6, zz_ck, zz_bl, zz_b3, zz_b2, zz_shl, zz_bt0, zz_bt1, pk_div, Nat.zero_add, Nat.add_zero, if_true, if_false, reduceIte, Nat.mul_zero, zz_or0, zz_inT, zz_inF, i3, at1, n1, n2, r1']
    · simp (disch := omega) only [fX12_unit_g, zz_lt, li_0, li_1, li_2, li_3, li_4, li_5, li_6, li_7, li_8, li_9, li_10, li_11, li_12, li_15, li_16, li_20, li_21, li_24, li_25, li_26, li_32, li_33, li_38, li_40, li_41, li_42, li_43, li_45, li_47, li_48, li_57, li_58, li_59, li_60, li_61, li_62, li_63, li_74, li_75, li_84, li_91, li_93, li_98, li_100, li_103, li_105, li_107, li_109, li_110, li_111, li_112, li_115, li_118, li_119, li_120, li_121, li_124, li_140, li_180, li_206, li_240, li_255, li_420, li_520, li_999, li_1000, li_1771, li_8240, li_9999, li_88200, li_1000000, li_2097151, li_31, nI_add, pk_mul, zz_sub, zz_an, nI_clamp, zz_leT, zz_leF, zz_ltT, zz_ltF, zz_eqF, zz_eqT, zz_m1, zz_m2, zz_m3, zz_m4, zz_m5, zz_m6, zz_ck, zz_bl, zz_b3, zz_b2, zz_shl, zz_bt0, zz_bt1, pk_div, Nat.zero_add, Nat.add_zero, if_true, if_false, reduceIte, Nat.mul_zero, zz_or0, zz_inT, zz_inF, lk, n1, n2, r2', n4]
