/-! PURE: escorts, the class's side. -/
def ceN (ec : Nat → Bool) : Nat → Nat
  | 0 => 0
  | i + 1 => if ec i = true then ceN ec i + 1 else ceN ec i
theorem ceN_le (ec : Nat → Bool) : ∀ i, ceN ec i ≤ i
  | 0 => Nat.le_refl _
  | i + 1 => by
    have := ceN_le ec i
    unfold ceN
    split <;> omega
theorem ceN_mono (ec : Nat → Bool) : ∀ j i, ceN ec i ≤ ceN ec (i + j)
  | 0, i => Nat.le_refl _
  | j + 1, i => by
    have := ceN_mono ec j i
    rw [← Nat.add_assoc]
    show _ ≤ (if ec (i + j) = true then ceN ec (i + j) + 1 else ceN ec (i + j))
    split <;> omega
theorem ceN_t {ec : Nat → Bool} {i : Nat} (h : ec i = true) : ceN ec (i + 1) = ceN ec i + 1 := if_pos h
theorem ceN_f {ec : Nat → Bool} {i : Nat} (h : ec i = false) : ceN ec (i + 1) = ceN ec i := if_neg (by rw [h]; decide)
theorem pc_brL {g : Nat → Nat → Nat} {W : Nat → (Nat → Nat) → Int32} {q : Nat → Nat} (hg : GW g) (n d : Nat) {I : am_I} (h : CS I g) (hH : CH I W q g) (L : am_L) {m : Nat} (h2 : m < g 0 0) : ∀ (j i F : Nat), i + j = g 0 0 → j < F → fX1_broughtHomeBy_b4 n d F (nI m) (am_bits (rcW W g (q 1) m) i) (nI i) I L = some (am_bits (rcW W g (q 1) m) (g 0 0), I, L)
  | _, _, 0, _, f => by omega
  | 0, i, F + 1, e, f => by
    have gm := hg.1
    have hm := h.1
    have e1 : i = g 0 0 := by omega
    subst e1
    simp (disch := omega) only [fX1_broughtHomeBy_b4, fX1_broughtHomeBy_b4w, zz_lt, li_0, li_1, li_2, li_3, li_4, li_5, li_6, li_7, li_8, li_9, li_10, li_11, li_12, li_15, li_16, li_20, li_21, li_24, li_25, li_26, li_32, li_33, li_38, li_40, li_41, li_42, li_43, li_45, li_47, li_48, li_57, li_58, li_59, li_60, li_61, li_62, li_63, li_74, li_75, li_84, li_91, li_93, li_98, li_100, li_103, li_105, li_107, li_109, li_110, li_111, li_112, li_115, li_118, li_119, li_120, li_121, li_124, li_140, li_180, li_206, li_240, li_255, li_420, li_520, li_999, li_1000, li_1771, li_8240, li_9999, li_88200, li_1000000, li_2097151, li_31, nI_add, pk_mul, zz_sub, zz_an, nI_clamp, zz_leT, zz_leF, zz_ltT, zz_ltF, zz_eqF, zz_eqT, zz_m1, zz_m2, zz_m3, zz_m4, zz_m5, zz_m6, zz_ck, zz_bl, zz_b3, zz_b2, zz_shl, zz_bt0, zz_bt1, pk_div, Nat.zero_add, Nat.add_zero, if_true, if_false, reduceIte, Nat.mul_zero, zz_or0, zz_inT, zz_inF, hm]
  | j + 1, i, F + 1, e, f => by
    have gm := hg.1
    have i1 : i < g 0 0 := by omega
    have ih := pc_brL hg n d h hH L h2 j (i + 1) F (by omega) (by omega)
    have b1 := hg.2.2.2.2.2.1 m h2
    have b2 := hg.2.2.2.2.2.1 i i1
    have b9 := hg.2.2.2.2.2.2.2.2.1 i i1
    have w2 := pc_home (W := W) (q := q) hg n d hH L i1
    have w3 := pc_canGo hg h n d L i1
    obtain ⟨hm, hgv, hp, ha, hd, t0, t1, t2, t3, t4, t5, o0, o1, r0, r1, hde, hra, hs0, hs1⟩ := h
    by_cases c1 : g 1 i = g 1 m
    · have er : rcW W g (q 1) m i = false := by unfold rcW; rw [decide_eq_false (fun z => z c1)]; rfl
      simp only [am_bits, er, Bool.false_eq_true, if_false, zz_or0] at ih
      rw [← ih]
      simp (disch := omega) only [fX1_broughtHomeBy_b4, fX1_broughtHomeBy_b4w, fX1_broughtHomeBy_b62, fX1_broughtHomeBy_b63, fX1_broughtHomeBy_b97, zz_lt, li_0, li_1, li_2, li_3, li_4, li_5, li_6, li_7, li_8, li_9, li_10, li_11, li_12, li_15, li_16, li_20, li_21, li_24, li_25, li_26, li_32, li_33, li_38, li_40, li_41, li_42, li_43, li_45, li_47, li_48, li_57, li_58, li_59, li_60, li_61, li_62, li_63, li_74, li_75, li_84, li_91, li_93, li_98, li_100, li_103, li_105, li_107, li_109, li_110, li_111, li_112, li_115, li_118, li_119, li_120, li_121, li_124, li_140, li_180, li_206, li_240, li_255, li_420, li_520, li_999, li_1000, li_1771, li_8240, li_9999, li_88200, li_1000000, li_2097151, li_31, nI_add, pk_mul, zz_sub, zz_an, nI_clamp, zz_leT, zz_leF, zz_ltT, zz_ltF, zz_eqF, zz_eqT, zz_m1, zz_m2, zz_m3, zz_m4, zz_m5, zz_m6, zz_ck, zz_bl, zz_b3, zz_b2, zz_shl, zz_bt0, zz_bt1, pk_div, Nat.zero_add, Nat.add_zero, if_true, if_false, reduceIte, Nat.mul_zero, zz_or0, zz_inT, zz_inF, hm, t0, c1]
    · cases c2 : gh W g (q 1) i
      · rw [c2] at w2
        by_cases c3 : 0 < g 9 i
        · by_cases c4 : g 9 i ≤ g 3 m
          · have er : rcW W g (q 1) m i = true := by unfold rcW; rw [decide_eq_true c1, c2, decide_eq_true (by omega)]; rfl
            simp only [am_bits, er, if_true] at ih
            rw [← ih]
            simp only [c3, if_true, Bool.toNat_false] at w2 w3
            simp (disch := omega) only [fX1_broughtHomeBy_b4, fX1_broughtHomeBy_b4w, fX1_broughtHomeBy_b62, fX1_broughtHomeBy_b63, fX1_broughtHomeBy_b97, zz_lt, li_0, li_1, li_2, li_3, li_4, li_5, li_6, li_7, li_8, li_9, li_10, li_11, li_12, li_15, li_16, li_20, li_21, li_24, li_25, li_26, li_32, li_33, li_38, li_40, li_41, li_42, li_43, li_45, li_47, li_48, li_57, li_58, li_59, li_60, li_61, li_62, li_63, li_74, li_75, li_84, li_91, li_93, li_98, li_100, li_103, li_105, li_107, li_109, li_110, li_111, li_112, li_115, li_118, li_119, li_120, li_121, li_124, li_140, li_180, li_206, li_240, li_255, li_420, li_520, li_999, li_1000, li_1771, li_8240, li_9999, li_88200, li_1000000, li_2097151, li_31, nI_add, pk_mul, zz_sub, zz_an, nI_clamp, zz_leT, zz_leF, zz_ltT, zz_ltF, zz_eqF, zz_eqT, zz_m1, zz_m2, zz_m3, zz_m4, zz_m5, zz_m6, zz_ck, zz_bl, zz_b3, zz_b2, zz_shl, zz_bt0, zz_bt1, pk_div, Nat.zero_add, Nat.add_zero, if_true, if_false, reduceIte, Nat.mul_zero, zz_or0, zz_inT, zz_inF, hm, t0, t2, r0, c1, w2, w3]
          · have er : rcW W g (q 1) m i = false := by unfold rcW; rw [decide_eq_false (by omega : ¬ (1 ≤ g 9 i ∧ g 9 i ≤ g 3 m))]; simp
            simp only [am_bits, er, Bool.false_eq_true, if_false, zz_or0] at ih
            rw [← ih]
            simp only [c3, if_true, Bool.toNat_false] at w2 w3
            simp (disch := omega) only [fX1_broughtHomeBy_b4, fX1_broughtHomeBy_b4w, fX1_broughtHomeBy_b62, fX1_broughtHomeBy_b63, fX1_broughtHomeBy_b97, zz_lt, li_0, li_1, li_2, li_3, li_4, li_5, li_6, li_7, li_8, li_9, li_10, li_11, li_12, li_15, li_16, li_20, li_21, li_24, li_25, li_26, li_32, li_33, li_38, li_40, li_41, li_42, li_43, li_45, li_47, li_48, li_57, li_58, li_59, li_60, li_61, li_62, li_63, li_74, li_75, li_84, li_91, li_93, li_98, li_100, li_103, li_105, li_107, li_109, li_110, li_111, li_112, li_115, li_118, li_119, li_120, li_121, li_124, li_140, li_180, li_206, li_240, li_255, li_420, li_520, li_999, li_1000, li_1771, li_8240, li_9999, li_88200, li_1000000, li_2097151, li_31, nI_add, pk_mul, zz_sub, zz_an, nI_clamp, zz_leT, zz_leF, zz_ltT, zz_ltF, zz_eqF, zz_eqT, zz_m1, zz_m2, zz_m3, zz_m4, zz_m5, zz_m6, zz_ck, zz_bl, zz_b3, zz_b2, zz_shl, zz_bt0, zz_bt1, pk_div, Nat.zero_add, Nat.add_zero, if_true, if_false, reduceIte, Nat.mul_zero, zz_or0, zz_inT, zz_inF, hm, t0, t2, r0, c1, w2, w3]
        · have er : rcW W g (q 1) m i = false := by unfold rcW; rw [decide_eq_false (by omega : ¬ (1 ≤ g 9 i ∧ g 9 i ≤ g 3 m))]; simp
          simp only [am_bits, er, Bool.false_eq_true, if_false, zz_or0] at ih
          rw [← ih]
          simp only [c3, if_false, Bool.toNat_false] at w2 w3
          simp (disch := omega) only [fX1_broughtHomeBy_b4, fX1_broughtHomeBy_b4w, fX1_broughtHomeBy_b62, fX1_broughtHomeBy_b63, fX1_broughtHomeBy_b97, zz_lt, li_0, li_1, li_2, li_3, li_4, li_5, li_6, li_7, li_8, li_9, li_10, li_11, li_12, li_15, li_16, li_20, li_21, li_24, li_25, li_26, li_32, li_33, li_38, li_40, li_41, li_42, li_43, li_45, li_47, li_48, li_57, li_58, li_59, li_60, li_61, li_62, li_63, li_74, li_75, li_84, li_91, li_93, li_98, li_100, li_103, li_105, li_107, li_109, li_110, li_111, li_112, li_115, li_118, li_119, li_120, li_121, li_124, li_140, li_180, li_206, li_240, li_255, li_420, li_520, li_999, li_1000, li_1771, li_8240, li_9999, li_88200, li_1000000, li_2097151, li_31, nI_add, pk_mul, zz_sub, zz_an, nI_clamp, zz_leT, zz_leF, zz_ltT, zz_ltF, zz_eqF, zz_eqT, zz_m1, zz_m2, zz_m3, zz_m4, zz_m5, zz_m6, zz_ck, zz_bl, zz_b3, zz_b2, zz_shl, zz_bt0, zz_bt1, pk_div, Nat.zero_add, Nat.add_zero, if_true, if_false, reduceIte, Nat.mul_zero, zz_or0, zz_inT, zz_inF, hm, t0, c1, w2, w3]
      · rw [c2] at w2
        have er : rcW W g (q 1) m i = false := by unfold rcW; rw [c2]; simp
        simp only [am_bits, er, Bool.false_eq_true, if_false, zz_or0] at ih
        rw [← ih]
        simp only [Bool.toNat_true] at w2
        simp (disch := omega) only [fX1_broughtHomeBy_b4, fX1_broughtHomeBy_b4w, fX1_broughtHomeBy_b62, fX1_broughtHomeBy_b63, fX1_broughtHomeBy_b97, zz_lt, li_0, li_1, li_2, li_3, li_4, li_5, li_6, li_7, li_8, li_9, li_10, li_11, li_12, li_15, li_16, li_20, li_21, li_24, li_25, li_26, li_32, li_33, li_38, li_40, li_41, li_42, li_43, li_45, li_47, li_48, li_57, li_58, li_59, li_60, li_61, li_62, li_63, li_74, li_75, li_84, li_91, li_93, li_98, li_100, li_103, li_105, li_107, li_109, li_110, li_111, li_112, li_115, li_118, li_119, li_120, li_121, li_124, li_140, li_180, li_206, li_240, li_255, li_420, li_520, li_999, li_1000, li_1771, li_8240, li_9999, li_88200, li_1000000, li_2097151, li_31, nI_add, pk_mul, zz_sub, zz_an, nI_clamp, zz_leT, zz_leF, zz_ltT, zz_ltF, zz_eqF, zz_eqT, zz_m1, zz_m2, zz_m3, zz_m4, zz_m5, zz_m6, zz_ck, zz_bl, zz_b3, zz_b2, zz_shl, zz_bt0, zz_bt1, pk_div, Nat.zero_add, Nat.add_zero, if_true, if_false, reduceIte, Nat.mul_zero, zz_or0, zz_inT, zz_inF, hm, t0, c1, w2]
def s58 (k j : Nat) : Bool := match k with | 58 => true | 59 => true | _ => false
theorem ag_58 {I I' : am_I} (a : am_ag s58 I I') : am_ag scrC I I' := ag_wk a (fun k j h => by
  unfold s58
  split
  · exact absurd h (by simp [scrC])
  · exact absurd h (by simp [scrC])
  · rfl)
theorem pc_gaL {g : Nat → Nat → Nat} {W : Nat → (Nat → Nat) → Int32} {q : Nat → Nat} (hg : GW g) (n d : Nat) (hn : 8 < n) (L : am_L) {s : Nat} (hs : s < 2) : ∀ (j i F : Nat) (I : am_I), i + j = g 0 0 → j < F → CS I g → CH I W q g → I 58 3 = nI (ceN (ecW W g (q 1) s) i) → (∀ m, m < i → ecW W g (q 1) s m = true → I 59 (ceN (ecW W g (q 1) s) m) = am_bits (rcW W g (q 1) m) (g 0 0)) → ∃ I', fX1_gather_b7 n d F (nI s) (nI i) I L = some (I', L) ∧ I' 58 3 = nI (ceN (ecW W g (q 1) s) (g 0 0)) ∧ (∀ m, m < g 0 0 → ecW W g (q 1) s m = true → I' 59 (ceN (ecW W g (q 1) s) m) = am_bits (rcW W g (q 1) m) (g 0 0)) ∧ am_ag s58 I I'
  | _, _, 0, _, _, f, _, _, _, _ => by omega
  | 0, i, F + 1, I, e, f, h, hH, h1, h2 => by
    have gm := hg.1
    have hm := h.1
    have e1 : i = g 0 0 := by omega
    subst e1
    exact ⟨I, by simp (disch := omega) only [fX1_gather_b7, fX1_gather_b7w, zz_lt, li_0, li_1, li_2, li_3, li_4, li_5, li_6, li_7, li_8, li_9, li_10, li_11, li_12, li_15, li_16, li_20, li_21, li_24, li_25, li_26, li_32, li_33, li_38, li_40, li_41, li_42, li_43, li_45, li_47, li_48, li_57, li_58, li_59, li_60, li_61, li_62, li_63, li_74, li_75, li_84, li_91, li_93, li_98, li_100, li_103, li_105, li_107, li_109, li_110, li_111, li_112, li_115, li_118, li_119, li_120, li_121, li_124, li_140, li_180, li_206, li_240, li_255, li_420, li_520, li_999, li_1000, li_1771, li_8240, li_9999, li_88200, li_1000000, li_2097151, li_31, nI_add, pk_mul, zz_sub, zz_an, nI_clamp, zz_leT, zz_leF, zz_ltT, zz_ltF, zz_eqF, zz_eqT, zz_m1, zz_m2, zz_m3, zz_m4, zz_m5, zz_m6, zz_ck, zz_bl, zz_b3, zz_b2, zz_shl, zz_bt0, zz_bt1, pk_div, Nat.zero_add, Nat.add_zero, if_true, if_false, reduceIte, Nat.mul_zero, zz_or0, zz_inT, zz_inF, hm], h1, h2, ag_rf⟩
  | j + 1, i, F + 1, I, e, f, h, hH, h1, h2 => by
    have gm := hg.1
    have hm := h.1
    have i1 : i < g 0 0 := by omega
    have b1 := hg.2.2.2.2.2.1 i i1
    have t0 := h.2.2.2.2.2.1 i i1
    have w2 := pc_home (W := W) (q := q) hg n d hH L i1
    have w3 := pc_hasRest hg h n d L i1
    have br : fX1_broughtHomeBy n d (nI i) I L = some (am_bits (rcW W g (q 1) i) (g 0 0), I, L) := pc_brL hg n d h hH L i1 (g 0 0) 0 n (by omega) (by omega)
    have cl := ceN_le (ecW W g (q 1) s) i
    cases ce : ecW W g (q 1) s i
    · have ef := ceN_f ce
      obtain ⟨I', z1, z2⟩ := pc_gaL hg n d hn L hs j (i + 1) F I (by omega) (by omega) h hH (by rw [ef]; exact h1) (fun m hm em => by
        by_cases c : m = i
        · subst c; rw [ce] at em; cases em
        · exact h2 m (by omega) em)
      refine ⟨I', ?_, z2⟩
      rw [← z1]
      unfold ecW at ce
      by_cases c1 : g 1 i = s
      · cases c2 : gh W g (q 1) i
        · rw [c2] at w2 ce
          have c3 : ¬ 0 < g 10 i := fun z => by rw [decide_eq_true c1, decide_eq_true z] at ce; cases ce
          simp only [c3, if_false, Bool.toNat_false] at w2 w3
          simp (disch := omega) only [fX1_gather_b7, fX1_gather_b7w, fX1_gather_b77, zz_lt, li_0, li_1, li_2, li_3, li_4, li_5, li_6, li_7, li_8, li_9, li_10, li_11, li_12, li_15, li_16, li_20, li_21, li_24, li_25, li_26, li_32, li_33, li_38, li_40, li_41, li_42, li_43, li_45, li_47, li_48, li_57, li_58, li_59, li_60, li_61, li_62, li_63, li_74, li_75, li_84, li_91, li_93, li_98, li_100, li_103, li_105, li_107, li_109, li_110, li_111, li_112, li_115, li_118, li_119, li_120, li_121, li_124, li_140, li_180, li_206, li_240, li_255, li_420, li_520, li_999, li_1000, li_1771, li_8240, li_9999, li_88200, li_1000000, li_2097151, li_31, nI_add, pk_mul, zz_sub, zz_an, nI_clamp, zz_leT, zz_leF, zz_ltT, zz_ltF, zz_eqF, zz_eqT, zz_m1, zz_m2, zz_m3, zz_m4, zz_m5, zz_m6, zz_ck, zz_bl, zz_b3, zz_b2, zz_shl, zz_bt0, zz_bt1, pk_div, Nat.zero_add, Nat.add_zero, if_true, if_false, reduceIte, Nat.mul_zero, zz_or0, zz_inT, zz_inF, hm, t0, c1, w2, w3]
        · rw [c2] at w2
          simp only [Bool.toNat_true] at w2
          simp (disch := omega) only [fX1_gather_b7, fX1_gather_b7w, fX1_gather_b77, zz_lt, li_0, li_1, li_2, li_3, li_4, li_5, li_6, li_7, li_8, li_9, li_10, li_11, li_12, li_15, li_16, li_20, li_21, li_24, li_25, li_26, li_32, li_33, li_38, li_40, li_41, li_42, li_43, li_45, li_47, li_48, li_57, li_58, li_59, li_60, li_61, li_62, li_63, li_74, li_75, li_84, li_91, li_93, li_98, li_100, li_103, li_105, li_107, li_109, li_110, li_111, li_112, li_115, li_118, li_119, li_120, li_121, li_124, li_140, li_180, li_206, li_240, li_255, li_420, li_520, li_999, li_1000, li_1771, li_8240, li_9999, li_88200, li_1000000, li_2097151, li_31, nI_add, pk_mul, zz_sub, zz_an, nI_clamp, zz_leT, zz_leF, zz_ltT, zz_ltF, zz_eqF, zz_eqT, zz_m1, zz_m2, zz_m3, zz_m4, zz_m5, zz_m6, zz_ck, zz_bl, zz_b3, zz_b2, zz_shl, zz_bt0, zz_bt1, pk_div, Nat.zero_add, Nat.add_zero, if_true, if_false, reduceIte, Nat.mul_zero, zz_or0, zz_inT, zz_inF, hm, t0, c1, w2]
      · simp (disch := omega) only [fX1_gather_b7, fX1_gather_b7w, fX1_gather_b77, zz_lt, li_0, li_1, li_2, li_3, li_4, li_5, li_6, li_7, li_8, li_9, li_10, li_11, li_12, li_15, li_16, li_20, li_21, li_24, li_25, li_26, li_32, li_33, li_38, li_40, li_41, li_42, li_43, li_45, li_47, li_48, li_57, li_58, li_59, li_60, li_61, li_62, li_63, li_74, li_75, li_84, li_91, li_93, li_98, li_100, li_103, li_105, li_107, li_109, li_110, li_111, li_112, li_115, li_118, li_119, li_120, li_121, li_124, li_140, li_180, li_206, li_240, li_255, li_420, li_520, li_999, li_1000, li_1771, li_8240, li_9999, li_88200, li_1000000, li_2097151, li_31, nI_add, pk_mul, zz_sub, zz_an, nI_clamp, zz_leT, zz_leF, zz_ltT, zz_ltF, zz_eqF, zz_eqT, zz_m1, zz_m2, zz_m3, zz_m4, zz_m5, zz_m6, zz_ck, zz_bl, zz_b3, zz_b2, zz_shl, zz_bt0, zz_bt1, pk_div, Nat.zero_add, Nat.add_zero, if_true, if_false, reduceIte, Nat.mul_zero, zz_or0, zz_inT, zz_inF, hm, t0, c1]
    · have et := ceN_t ce
      have ag1 : am_ag s58 I (am_up (am_up I 59 (ceN (ecW W g (q 1) s) i) (am_bits (rcW W g (q 1) i) (g 0 0))) 58 3 (nI (ceN (ecW W g (q 1) s) i + 1))) := ag_up (ag_up ag_rf rfl) rfl
      obtain ⟨I', z1, z2, z3, z4⟩ := pc_gaL hg n d hn L hs j (i + 1) F (am_up (am_up I 59 (ceN (ecW W g (q 1) s) i) (am_bits (rcW W g (q 1) i) (g 0 0))) 58 3 (nI (ceN (ecW W g (q 1) s) i + 1))) (by omega) (by omega) (CS_keep h (ag_58 ag1)) (CH_keep hH (ag_58 ag1)) (by rw [up_s rfl, et]) (fun m hm em => by
        rw [am_up_ne (by omega)]
        by_cases c : m = i
        · subst c; rw [up_s rfl]
        · have q1 := ceN_t em
          have q2 := ceN_mono (ecW W g (q 1) s) (i - (m + 1)) (m + 1)
          rw [show m + 1 + (i - (m + 1)) = i by omega] at q2
          rw [up_n (by omega)]
          exact h2 m (by omega) em)
      refine ⟨I', ?_, z2, z3, ag_tr ag1 z4⟩
      rw [← z1]
      unfold ecW at ce
      simp at ce
      simp only [ce.2.1, ce.2.2, if_true, Bool.toNat_false] at w2 w3
      simp (disch := omega) only [fX1_gather_b7, fX1_gather_b7w, fX1_gather_b77, zz_lt, li_0, li_1, li_2, li_3, li_4, li_5, li_6, li_7, li_8, li_9, li_10, li_11, li_12, li_15, li_16, li_20, li_21, li_24, li_25, li_26, li_32, li_33, li_38, li_40, li_41, li_42, li_43, li_45, li_47, li_48, li_57, li_58, li_59, li_60, li_61, li_62, li_63, li_74, li_75, li_84, li_91, li_93, li_98, li_100, li_103, li_105, li_107, li_109, li_110, li_111, li_112, li_115, li_118, li_119, li_120, li_121, li_124, li_140, li_180, li_206, li_240, li_255, li_420, li_520, li_999, li_1000, li_1771, li_8240, li_9999, li_88200, li_1000000, li_2097151, li_31, nI_add, pk_mul, zz_sub, zz_an, nI_clamp, zz_leT, zz_leF, zz_ltT, zz_ltF, zz_eqF, zz_eqT, zz_m1, zz_m2, zz_m3, zz_m4, zz_m5, zz_m6, zz_ck, zz_bl, zz_b3, zz_b2, zz_shl, zz_bt0, zz_bt1, pk_div, Nat.zero_add, Nat.add_zero, if_true, if_false, reduceIte, Nat.mul_zero, zz_or0, zz_inT, zz_inF, hm, t0, ce.1, w2, w3, br, h1, am_up_ne]
/-- one bit of a set -/
theorem and_bit {x y : Int32} {o : Nat} (ho : o < 32) : ((x &&& y) &&& nI (2 ^ o) = nI 0) = ((bt x o && bt y o) = false) := by
  apply propext
  constructor
  · intro h
    have := congrArg (fun z => bt z o) h
    simp only [b_and, bt_pow o ho o ho] at this
    rw [show bt (nI 0) o = false from b_0 o] at this
    simpa using this
  · intro h
    apply b_ext
    intro i hi
    rw [b_and, b_and, bt_pow o ho i hi, show bt (nI 0) i = false from b_0 i]
    by_cases c : i = o
    · subst c; rw [h]; rfl
    · simp [c]
theorem andn_bit {x : Int32} {o i : Nat} (ho : o < 32) (hi : i < 32) : bt (x &&& (nI (2 ^ o) ^^^ -nI 1)) i = (if i = o then false else bt x i) := by
  rw [b_and, b_xor, bt_m1 i hi, bt_pow o ho i hi]
  by_cases c : i = o
  · simp [c]
  · simp [c]
/-- what the class has gathered -/
def GA (I : am_I) (ec : Nat → Bool) (rc : Nat → Nat → Bool) (μ : Nat) : Prop := I 58 3 = nI (ceN ec μ) ∧ I 3 0 = nI μ ∧ μ ≤ 8 ∧ ∀ m, m < μ → ec m = true → I 59 (ceN ec m) = am_bits (rc m) μ
def moP (n d : Nat) (I : am_I) (L : am_L) (ec : Nat → Bool) (rc : Nat → Nat → Bool) (μ j m : Nat) : Prop := ∀ (x : Int32) (f : Nat → Bool), (∀ i, i < μ → bt x i = f i) → gX1_mostFrom n d 0 (nI (ceN ec m)) x 0 0 0 I L = some (nI (Bm ec rc μ j m f), I, L)
theorem pc_moL (n d : Nat) {I : am_I} (L : am_L) {ec : Nat → Bool} {rc : Nat → Nat → Bool} {μ j m : Nat} (hG : GA I ec rc μ) (hj : m + 1 + j = μ) (he : ec m = true) (IH : moP n d I L ec rc μ j (m + 1)) {x : Int32} {f : Nat → Bool} (hx : ∀ i, i < μ → bt x i = f i) {b0 : Nat} (hb0 : b0 ≤ 8) : ∀ (t i F : Nat), i + t = μ → t < F → fX1_mostFrom_b28 n d (gX1_mostFrom n d) F (nI (ceN ec m)) x (nI (max b0 (bo (fun o => 1 + Bm ec rc μ j (m + 1) (rmv f o)) (fun o => f o && rc m o) i))) (nI i) I L = some (nI (max b0 (bo (fun o => 1 + Bm ec rc μ j (m + 1) (rmv f o)) (fun o => f o && rc m o) μ)), I, L)
  | _, _, 0, _, f => by omega
  | 0, i, F + 1, e, fu => by
    obtain ⟨g1, g2, g3, g4⟩ := hG
    have e1 : i = μ := by omega
    subst e1
    simp (disch := omega) only [fX1_mostFrom_b28, fX1_mostFrom_b28w, zz_lt, li_0, li_1, li_2, li_3, li_4, li_5, li_6, li_7, li_8, li_9, li_10, li_11, li_12, li_15, li_16, li_20, li_21, li_24, li_25, li_26, li_32, li_33, li_38, li_40, li_41, li_42, li_43, li_45, li_47, li_48, li_57, li_58, li_59, li_60, li_61, li_62, li_63, li_74, li_75, li_84, li_91, li_93, li_98, li_100, li_103, li_105, li_107, li_109, li_110, li_111, li_112, li_115, li_118, li_119, li_120, li_121, li_124, li_140, li_180, li_206, li_240, li_255, li_420, li_520, li_999, li_1000, li_1771, li_8240, li_9999, li_88200, li_1000000, li_2097151, li_31, nI_add, pk_mul, zz_sub, zz_an, nI_clamp, zz_leT, zz_leF, zz_ltT, zz_ltF, zz_eqF, zz_eqT, zz_m1, zz_m2, zz_m3, zz_m4, zz_m5, zz_m6, zz_ck, zz_bl, zz_b3, zz_b2, zz_shl, zz_bt0, zz_bt1, pk_div, Nat.zero_add, Nat.add_zero, if_true, if_false, reduceIte, Nat.mul_zero, zz_or0, zz_inT, zz_inF, g2]
  | t + 1, i, F + 1, e, fu => by
    have ih := pc_moL n d L hG hj he IH hx hb0 t (i + 1) F (by omega) (by omega)
    obtain ⟨g1, g2, g3, g4⟩ := hG
    have cl := ceN_le ec m
    have rv := g4 m (by omega) he
    have ab := and_bit (x := am_bits (rc m) μ) (y := x) (o := i) (by omega)
    rw [bt_bits _ _ (by omega) _ (by omega), hx i (by omega), decide_eq_true (by omega : i < μ), Bool.true_and] at ab
    have bs : bo (fun o => 1 + Bm ec rc μ j (m + 1) (rmv f o)) (fun o => f o && rc m o) (i + 1) = if (f i && rc m i) = true then max (bo (fun o => 1 + Bm ec rc μ j (m + 1) (rmv f o)) (fun o => f o && rc m o) i) (1 + Bm ec rc μ j (m + 1) (rmv f i)) else bo (fun o => 1 + Bm ec rc μ j (m + 1) (rmv f o)) (fun o => f o && rc m o) i := rfl
    cases cp : (f i && rc m i)
    · rw [cp, if_neg (by decide)] at bs
      rw [bs] at ih
      have ab' : ((am_bits (rc m) μ &&& x) &&& nI (2 ^ i) = nI 0) = True := by rw [ab, Bool.and_comm, cp]; simp
      rw [← ih]
      simp (disch := omega) only [fX1_mostFrom_b28, fX1_mostFrom_b28w, fX1_mostFrom_b78, zz_lt, li_0, li_1, li_2, li_3, li_4, li_5, li_6, li_7, li_8, li_9, li_10, li_11, li_12, li_15, li_16, li_20, li_21, li_24, li_25, li_26, li_32, li_33, li_38, li_40, li_41, li_42, li_43, li_45, li_47, li_48, li_57, li_58, li_59, li_60, li_61, li_62, li_63, li_74, li_75, li_84, li_91, li_93, li_98, li_100, li_103, li_105, li_107, li_109, li_110, li_111, li_112, li_115, li_118, li_119, li_120, li_121, li_124, li_140, li_180, li_206, li_240, li_255, li_420, li_520, li_999, li_1000, li_1771, li_8240, li_9999, li_88200, li_1000000, li_2097151, li_31, nI_add, pk_mul, zz_sub, zz_an, nI_clamp, zz_leT, zz_leF, zz_ltT, zz_ltF, zz_eqF, zz_eqT, zz_m1, zz_m2, zz_m3, zz_m4, zz_m5, zz_m6, zz_ck, zz_bl, zz_b3, zz_b2, zz_shl, zz_bt0, zz_bt1, pk_div, Nat.zero_add, Nat.add_zero, if_true, if_false, reduceIte, Nat.mul_zero, zz_or0, zz_inT, zz_inF, g2, rv, ab']
    · rw [cp, if_pos rfl] at bs
      rw [bs] at ih
      have ab' : ((am_bits (rc m) μ &&& x) &&& nI (2 ^ i) = nI 0) = False := by rw [ab, Bool.and_comm, cp]; simp
      have et := ceN_t he
      have rc1 := IH (x &&& (nI (2 ^ i) ^^^ -nI 1)) (rmv f i) (fun k hk => by
        rw [andn_bit (by omega) (by omega)]
        unfold rmv
        split
        · rfl
        · exact hx k hk)
      rw [et] at rc1
      have rc2 : gX1_mostFrom n d 0 (nI (ceN ec m + 1)) (x &&& (nI (2 ^ i) ^^^ -nI 1)) (nI 0) (nI 0) (nI 0) I L = some (nI (Bm ec rc μ j (m + 1) (rmv f i)), I, L) := rc1
      have bl := Bm_le ec rc μ j (m + 1) (rmv f i)
      have bl2 : bo (fun o => 1 + Bm ec rc μ j (m + 1) (rmv f o)) (fun o => f o && rc m o) i ≤ 9 := by
        rcases bo_at (v := fun o => 1 + Bm ec rc μ j (m + 1) (rmv f o)) (p := fun o => f o && rc m o) i with h | ⟨o, _, _, h⟩
        · omega
        · have h3 := Bm_le ec rc μ j (m + 1) (rmv f o)
          have h4 : 1 + Bm ec rc μ j (m + 1) (rmv f o) = bo (fun o => 1 + Bm ec rc μ j (m + 1) (rmv f o)) (fun o => f o && rc m o) i := h
          omega
      have jm := fun I L => J_max n d (max b0 (bo (fun o => 1 + Bm ec rc μ j (m + 1) (rmv f o)) (fun o => f o && rc m o) i)) (1 + Bm ec rc μ j (m + 1) (rmv f i)) I L (by omega) (by omega)
      rw [← ih, ← Nat.max_assoc]
      simp (disch := omega) only [fX1_mostFrom_b28, fX1_mostFrom_b28w, fX1_mostFrom_b78, zz_lt, li_0, li_1, li_2, li_3, li_4, li_5, li_6, li_7, li_8, li_9, li_10, li_11, li_12, li_15, li_16, li_20, li_21, li_24, li_25, li_26, li_32, li_33, li_38, li_40, li_41, li_42, li_43, li_45, li_47, li_48, li_57, li_58, li_59, li_60, li_61, li_62, li_63, li_74, li_75, li_84, li_91, li_93, li_98, li_100, li_103, li_105, li_107, li_109, li_110, li_111, li_112, li_115, li_118, li_119, li_120, li_121, li_124, li_140, li_180, li_206, li_240, li_255, li_420, li_520, li_999, li_1000, li_1771, li_8240, li_9999, li_88200, li_1000000, li_2097151, li_31, nI_add, pk_mul, zz_sub, zz_an, nI_clamp, zz_leT, zz_leF, zz_ltT, zz_ltF, zz_eqF, zz_eqT, zz_m1, zz_m2, zz_m3, zz_m4, zz_m5, zz_m6, zz_ck, zz_bl, zz_b3, zz_b2, zz_shl, zz_bt0, zz_bt1, pk_div, Nat.zero_add, Nat.add_zero, if_true, if_false, reduceIte, Nat.mul_zero, zz_or0, zz_inT, zz_inF, g2, rv, ab', rc2, jm]
theorem pc_mo (n : Nat) (hn : 8 < n) {I : am_I} (L : am_L) {ec : Nat → Bool} {rc : Nat → Nat → Bool} {μ : Nat} (hG : GA I ec rc μ) : ∀ (j m d : Nat), m + j = μ → j < d → moP n d I L ec rc μ j m
  | _, _, 0, _, f => by omega
  | 0, m, d + 1, e, fd => by
    intro x f hx
    obtain ⟨g1, g2, g3, g4⟩ := hG
    have e1 : m = μ := by omega
    subst e1
    have cl := ceN_le ec m
    show gX1_mostFrom n (d + 1) 0 (nI (ceN ec m)) x 0 0 0 I L = some (nI 0, I, L)
    simp (disch := omega) only [gX1_mostFrom, fX1_mostFrom_g, zz_lt, li_0, li_1, li_2, li_3, li_4, li_5, li_6, li_7, li_8, li_9, li_10, li_11, li_12, li_15, li_16, li_20, li_21, li_24, li_25, li_26, li_32, li_33, li_38, li_40, li_41, li_42, li_43, li_45, li_47, li_48, li_57, li_58, li_59, li_60, li_61, li_62, li_63, li_74, li_75, li_84, li_91, li_93, li_98, li_100, li_103, li_105, li_107, li_109, li_110, li_111, li_112, li_115, li_118, li_119, li_120, li_121, li_124, li_140, li_180, li_206, li_240, li_255, li_420, li_520, li_999, li_1000, li_1771, li_8240, li_9999, li_88200, li_1000000, li_2097151, li_31, nI_add, pk_mul, zz_sub, zz_an, nI_clamp, zz_leT, zz_leF, zz_ltT, zz_ltF, zz_eqF, zz_eqT, zz_m1, zz_m2, zz_m3, zz_m4, zz_m5, zz_m6, zz_ck, zz_bl, zz_b3, zz_b2, zz_shl, zz_bt0, zz_bt1, pk_div, Nat.zero_add, Nat.add_zero, if_true, if_false, reduceIte, Nat.mul_zero, zz_or0, zz_inT, zz_inF, g1]
  | j + 1, m, d + 1, e, fd => by
    intro x f hx
    cases ce : ec m
    · have ih := pc_mo n hn L hG j (m + 1) (d + 1) (by omega) (by omega) x f hx
      rw [ceN_f ce] at ih
      rw [Bm_n ce]
      exact ih
    · have IH := pc_mo n hn L hG j (m + 1) d (by omega) (by omega)
      have ih := IH x f hx
      have et := ceN_t ce
      have cm := ceN_mono ec j (m + 1)
      rw [show m + 1 + j = μ by omega] at cm
      have cl := ceN_le ec m
      have cl2 := ceN_le ec μ
      have bl := Bm_le ec rc μ j (m + 1) f
      have g3 := hG.2.2.1
      have lp := pc_moL (j := j) n d L hG (by omega) ce IH hx (b0 := Bm ec rc μ j (m + 1) f) (by omega) μ 0 n (by omega) (by omega)
      rw [Bm_s ce, Nat.max_comm, ← lp]
      rw [et] at ih
      have ih' : gX1_mostFrom n d 0 (nI (ceN ec m + 1)) x (nI 0) (nI 0) (nI 0) I L = some (nI (Bm ec rc μ j (m + 1) f), I, L) := ih
      have b0 : max (Bm ec rc μ j (m + 1) f) (bo (fun o => 1 + Bm ec rc μ j (m + 1) (rmv f o)) (fun o => f o && rc m o) 0) = Bm ec rc μ j (m + 1) f := by
        show max _ 0 = _
        omega
      rw [b0]
      have g1 := hG.1
      simp (disch := omega) only [gX1_mostFrom, fX1_mostFrom_g, zz_lt, li_0, li_1, li_2, li_3, li_4, li_5, li_6, li_7, li_8, li_9, li_10, li_11, li_12, li_15, li_16, li_20, li_21, li_24, li_25, li_26, li_32, li_33, li_38, li_40, li_41, li_42, li_43, li_45, li_47, li_48, li_57, li_58, li_59, li_60, li_61, li_62, li_63, li_74, li_75, li_84, li_91, li_93, li_98, li_100, li_103, li_105, li_107, li_109, li_110, li_111, li_112, li_115, li_118, li_119, li_120, li_121, li_124, li_140, li_180, li_206, li_240, li_255, li_420, li_520, li_999, li_1000, li_1771, li_8240, li_9999, li_88200, li_1000000, li_2097151, li_31, nI_add, pk_mul, zz_sub, zz_an, nI_clamp, zz_leT, zz_leF, zz_ltT, zz_ltF, zz_eqF, zz_eqT, zz_m1, zz_m2, zz_m3, zz_m4, zz_m5, zz_m6, zz_ck, zz_bl, zz_b3, zz_b2, zz_shl, zz_bt0, zz_bt1, pk_div, Nat.zero_add, Nat.add_zero, if_true, if_false, reduceIte, Nat.mul_zero, zz_or0, zz_inT, zz_inF, g1, ih']
/-- the lowest that leaves the most -/
theorem pc_loL (n d : Nat) (hd : 20 < d) (hn : 8 < n) {I : am_I} (L : am_L) {ec : Nat → Bool} {rc : Nat → Nat → Bool} {μ j m : Nat} (hG : GA I ec rc μ) (hj : m + 1 + j = μ) (he : ec m = true) {x : Int32} {f : Nat → Bool} (hx : ∀ i, i < μ → bt x i = f i) : ∀ (t i F : Nat), i + t = μ → t < F → fX1_lowestThatLeaves_b3 n d F (nI (ceN ec m)) x (nI (Bm ec rc μ (j + 1) m f)) (nI i) I L = some (nI (lo (wt ec rc μ j m f) t i), I, L)
  | _, _, 0, _, f => by omega
  | 0, i, F + 1, e, fu => by
    obtain ⟨g1, g2, g3, g4⟩ := hG
    have e1 : i = μ := by omega
    subst e1
    show _ = some (nI 9, I, L)
    simp (disch := omega) only [fX1_lowestThatLeaves_b3, fX1_lowestThatLeaves_b3w, zz_lt, li_0, li_1, li_2, li_3, li_4, li_5, li_6, li_7, li_8, li_9, li_10, li_11, li_12, li_15, li_16, li_20, li_21, li_24, li_25, li_26, li_32, li_33, li_38, li_40, li_41, li_42, li_43, li_45, li_47, li_48, li_57, li_58, li_59, li_60, li_61, li_62, li_63, li_74, li_75, li_84, li_91, li_93, li_98, li_100, li_103, li_105, li_107, li_109, li_110, li_111, li_112, li_115, li_118, li_119, li_120, li_121, li_124, li_140, li_180, li_206, li_240, li_255, li_420, li_520, li_999, li_1000, li_1771, li_8240, li_9999, li_88200, li_1000000, li_2097151, li_31, nI_add, pk_mul, zz_sub, zz_an, nI_clamp, zz_leT, zz_leF, zz_ltT, zz_ltF, zz_eqF, zz_eqT, zz_m1, zz_m2, zz_m3, zz_m4, zz_m5, zz_m6, zz_ck, zz_bl, zz_b3, zz_b2, zz_shl, zz_bt0, zz_bt1, pk_div, Nat.zero_add, Nat.add_zero, if_true, if_false, reduceIte, Nat.mul_zero, zz_or0, zz_inT, zz_inF, g2]
  | t + 1, i, F + 1, e, fu => by
    have ih := pc_loL n d hd hn L hG hj he hx t (i + 1) F (by omega) (by omega)
    have IH := pc_mo n hn L hG j (m + 1) d (by omega) (by have := hG.2.2.1; omega)
    obtain ⟨g1, g2, g3, g4⟩ := hG
    have cl := ceN_le ec m
    have rv := g4 m (by omega) he
    have ab := and_bit (x := am_bits (rc m) μ) (y := x) (o := i) (by omega)
    rw [bt_bits _ _ (by omega) _ (by omega), hx i (by omega), decide_eq_true (by omega : i < μ), Bool.true_and] at ab
    have ls : lo (wt ec rc μ j m f) (t + 1) i = if wt ec rc μ j m f i = true then i else lo (wt ec rc μ j m f) t (i + 1) := rfl
    have ew : wt ec rc μ j m f i = ((f i && rc m i) && decide (1 + Bm ec rc μ j (m + 1) (rmv f i) = Bm ec rc μ (j + 1) m f)) := rfl
    rw [ls, ew]
    cases cp : (f i && rc m i)
    · have ab' : ((am_bits (rc m) μ &&& x) &&& nI (2 ^ i) = nI 0) = True := by rw [ab, Bool.and_comm, cp]; simp
      rw [Bool.false_and, if_neg (by decide), ← ih]
      simp (disch := omega) only [fX1_lowestThatLeaves_b3, fX1_lowestThatLeaves_b3w, fX1_lowestThatLeaves_b42, fX1_lowestThatLeaves_b73, zz_lt, li_0, li_1, li_2, li_3, li_4, li_5, li_6, li_7, li_8, li_9, li_10, li_11, li_12, li_15, li_16, li_20, li_21, li_24, li_25, li_26, li_32, li_33, li_38, li_40, li_41, li_42, li_43, li_45, li_47, li_48, li_57, li_58, li_59, li_60, li_61, li_62, li_63, li_74, li_75, li_84, li_91, li_93, li_98, li_100, li_103, li_105, li_107, li_109, li_110, li_111, li_112, li_115, li_118, li_119, li_120, li_121, li_124, li_140, li_180, li_206, li_240, li_255, li_420, li_520, li_999, li_1000, li_1771, li_8240, li_9999, li_88200, li_1000000, li_2097151, li_31, nI_add, pk_mul, zz_sub, zz_an, nI_clamp, zz_leT, zz_leF, zz_ltT, zz_ltF, zz_eqF, zz_eqT, zz_m1, zz_m2, zz_m3, zz_m4, zz_m5, zz_m6, zz_ck, zz_bl, zz_b3, zz_b2, zz_shl, zz_bt0, zz_bt1, pk_div, Nat.zero_add, Nat.add_zero, if_true, if_false, reduceIte, Nat.mul_zero, zz_or0, zz_inT, zz_inF, g2, rv, ab']
    · have ab' : ((am_bits (rc m) μ &&& x) &&& nI (2 ^ i) = nI 0) = False := by rw [ab, Bool.and_comm, cp]; simp
      have et := ceN_t he
      have rc1 := IH (x &&& (nI (2 ^ i) ^^^ -nI 1)) (rmv f i) (fun k hk => by
        rw [andn_bit (by omega) (by omega)]
        unfold rmv
        split
        · rfl
        · exact hx k hk)
      rw [et] at rc1
      have rc2 : fX1_mostFrom n d (nI (ceN ec m + 1)) (x &&& (nI (2 ^ i) ^^^ -nI 1)) I L = some (nI (Bm ec rc μ j (m + 1) (rmv f i)), I, L) := rc1
      have bl := Bm_le ec rc μ j (m + 1) (rmv f i)
      have bl2 := Bm_le ec rc μ (j + 1) m f
      rw [Bool.true_and]
      by_cases cd : 1 + Bm ec rc μ j (m + 1) (rmv f i) = Bm ec rc μ (j + 1) m f
      · rw [decide_eq_true cd, if_pos rfl]
        simp (disch := omega) only [fX1_lowestThatLeaves_b3, fX1_lowestThatLeaves_b3w, fX1_lowestThatLeaves_b42, fX1_lowestThatLeaves_b73, zz_lt, li_0, li_1, li_2, li_3, li_4, li_5, li_6, li_7, li_8, li_9, li_10, li_11, li_12, li_15, li_16, li_20, li_21, li_24, li_25, li_26, li_32, li_33, li_38, li_40, li_41, li_42, li_43, li_45, li_47, li_48, li_57, li_58, li_59, li_60, li_61, li_62, li_63, li_74, li_75, li_84, li_91, li_93, li_98, li_100, li_103, li_105, li_107, li_109, li_110, li_111, li_112, li_115, li_118, li_119, li_120, li_121, li_124, li_140, li_180, li_206, li_240, li_255, li_420, li_520, li_999, li_1000, li_1771, li_8240, li_9999, li_88200, li_1000000, li_2097151, li_31, nI_add, pk_mul, zz_sub, zz_an, nI_clamp, zz_leT, zz_leF, zz_ltT, zz_ltF, zz_eqF, zz_eqT, zz_m1, zz_m2, zz_m3, zz_m4, zz_m5, zz_m6, zz_ck, zz_bl, zz_b3, zz_b2, zz_shl, zz_bt0, zz_bt1, pk_div, Nat.zero_add, Nat.add_zero, if_true, if_false, reduceIte, Nat.mul_zero, zz_or0, zz_inT, zz_inF, g2, rv, ab', rc2]
      · rw [decide_eq_false cd, if_neg (by decide), ← ih]
        simp (disch := omega) only [fX1_lowestThatLeaves_b3, fX1_lowestThatLeaves_b3w, fX1_lowestThatLeaves_b42, fX1_lowestThatLeaves_b73, zz_lt, li_0, li_1, li_2, li_3, li_4, li_5, li_6, li_7, li_8, li_9, li_10, li_11, li_12, li_15, li_16, li_20, li_21, li_24, li_25, li_26, li_32, li_33, li_38, li_40, li_41, li_42, li_43, li_45, li_47, li_48, li_57, li_58, li_59, li_60, li_61, li_62, li_63, li_74, li_75, li_84, li_91, li_93, li_98, li_100, li_103, li_105, li_107, li_109, li_110, li_111, li_112, li_115, li_118, li_119, li_120, li_121, li_124, li_140, li_180, li_206, li_240, li_255, li_420, li_520, li_999, li_1000, li_1771, li_8240, li_9999, li_88200, li_1000000, li_2097151, li_31, nI_add, pk_mul, zz_sub, zz_an, nI_clamp, zz_leT, zz_leF, zz_ltT, zz_ltF, zz_eqF, zz_eqT, zz_m1, zz_m2, zz_m3, zz_m4, zz_m5, zz_m6, zz_ck, zz_bl, zz_b3, zz_b2, zz_shl, zz_bt0, zz_bt1, pk_div, Nat.zero_add, Nat.add_zero, if_true, if_false, reduceIte, Nat.mul_zero, zz_or0, zz_inT, zz_inF, g2, rv, ab', rc2]
theorem lo_lt {w : Nat → Bool} {o : Nat} (h1 : w o = true) : ∀ (j i : Nat), i ≤ o → o < i + j → lo w j i ≤ o
  | 0, i, h2, h3 => by omega
  | j + 1, i, h2, h3 => by
    unfold lo
    by_cases c : w i = true
    · rw [if_pos c]; exact h2
    · rw [if_neg c]
      have : i ≠ o := fun z => by subst z; exact c h1
      exact lo_lt h1 j (i + 1) (by omega) (by omega)
theorem pc_lrE (n d : Nat) {I : am_I} (L : am_L) {E : Nat} {x : Int32} {row due : Nat} (g1 : I 58 3 = nI E) (hE : E ≤ 8) (F : Nat) : fX1_leastRow_b18 n d (F + 1) (nI row) x (nI due) (nI E) I L = some (nI row, I, L) := by
  simp (disch := omega) only [fX1_leastRow_b18, fX1_leastRow_b18w, zz_lt, li_0, li_1, li_2, li_3, li_4, li_5, li_6, li_7, li_8, li_9, li_10, li_11, li_12, li_15, li_16, li_20, li_21, li_24, li_25, li_26, li_32, li_33, li_38, li_40, li_41, li_42, li_43, li_45, li_47, li_48, li_57, li_58, li_59, li_60, li_61, li_62, li_63, li_74, li_75, li_84, li_91, li_93, li_98, li_100, li_103, li_105, li_107, li_109, li_110, li_111, li_112, li_115, li_118, li_119, li_120, li_121, li_124, li_140, li_180, li_206, li_240, li_255, li_420, li_520, li_999, li_1000, li_1771, li_8240, li_9999, li_88200, li_1000000, li_2097151, li_31, nI_add, pk_mul, zz_sub, zz_an, nI_clamp, zz_leT, zz_leF, zz_ltT, zz_ltF, zz_eqF, zz_eqT, zz_m1, zz_m2, zz_m3, zz_m4, zz_m5, zz_m6, zz_ck, zz_bl, zz_b3, zz_b2, zz_shl, zz_bt0, zz_bt1, pk_div, Nat.zero_add, Nat.add_zero, if_true, if_false, reduceIte, Nat.mul_zero, zz_or0, zz_inT, zz_inF, g1]
theorem pc_lr (n d : Nat) (hd : 20 < d) (hn : 8 < n) {I : am_I} (L : am_L) {ec : Nat → Bool} {rc : Nat → Nat → Bool} {μ : Nat} (hG : GA I ec rc μ) : ∀ (j m F : Nat) (x : Int32) (f : Nat → Bool) (row : Nat), m + j = μ → j < F → (∀ i, i < μ → bt x i = f i) → fX1_leastRow_b18 n d F (nI row) x (nI (Bm ec rc μ j m f)) (nI (ceN ec m)) I L = some (nI (Rm ec rc μ j m f row), I, L)
  | _, _, 0, _, _, _, _, f, _ => by omega
  | 0, m, F + 1, x, f, row, e, fu, hx => by
    have e1 : m = μ := by omega
    subst e1
    have cl := ceN_le ec m
    have g3 := hG.2.2.1
    exact pc_lrE n d L hG.1 (by omega) F
  | j + 1, m, F + 1, x, f, row, e, fu, hx => by
    cases ce : ec m
    · have ih := pc_lr n d hd hn L hG j (m + 1) (F + 1) x f row (by omega) (by omega) hx
      rw [ceN_f ce] at ih
      rw [Bm_n ce, Rm_n ce]
      exact ih
    · have et := ceN_t ce
      have cm := ceN_mono ec j (m + 1)
      rw [show m + 1 + j = μ by omega] at cm
      have cl := ceN_le ec m
      have cl2 := ceN_le ec μ
      have g1 := hG.1
      have g3 := hG.2.2.1
      have lw := pc_loL (j := j) n d hd hn L hG (by omega) ce hx μ 0 n (by omega) (by omega)
      have lw' : fX1_lowestThatLeaves n d (nI (ceN ec m)) x (nI (Bm ec rc μ (j + 1) m f)) I L = some (nI (lo (wt ec rc μ j m f) μ 0), I, L) := lw
      have bl := Bm_le ec rc μ (j + 1) m f
      rw [Rm_s ce]
      rcases lo_ok (w := wt ec rc μ j m f) μ 0 with l9 | ⟨l1, l2, l3⟩
      · -- nobody
        have eb : Bm ec rc μ (j + 1) m f = Bm ec rc μ j (m + 1) f := by
          have hs := Bm_s (rc := rc) (μ := μ) (j := j) (f := f) ce
          rcases bo_at (v := fun o => 1 + Bm ec rc μ j (m + 1) (rmv f o)) (p := fun o => f o && rc m o) μ with h | ⟨o, h1, h2, h3⟩
          · rw [h] at hs; omega
          · by_cases z : Bm ec rc μ (j + 1) m f = Bm ec rc μ j (m + 1) f
            · exact z
            · exfalso
              have wo : wt ec rc μ j m f o = true := by
                show ((f o && rc m o) && decide (1 + Bm ec rc μ j (m + 1) (rmv f o) = Bm ec rc μ (j + 1) m f)) = true
                have h2' : (f o && rc m o) = true := h2
                have h3' : 1 + Bm ec rc μ j (m + 1) (rmv f o) = bo (fun o => 1 + Bm ec rc μ j (m + 1) (rmv f o)) (fun o => f o && rc m o) μ := h3
                rw [h2', decide_eq_true (by omega)]; rfl
              have := lo_lt wo μ 0 (by omega) (by omega)
              omega
        rw [l9] at lw' ⊢
        rw [if_pos rfl]
        have ih := pc_lr n d hd hn L hG j (m + 1) F x f (10 * row + 9) (by omega) (by omega) hx
        rw [et, ← eb] at ih
        rw [← ih, show 10 * row + 9 = row * 10 + 9 by omega]
        simp (disch := omega) only [fX1_leastRow_b18, fX1_leastRow_b18w, fX1_leastRow_b64, zz_lt, li_0, li_1, li_2, li_3, li_4, li_5, li_6, li_7, li_8, li_9, li_10, li_11, li_12, li_15, li_16, li_20, li_21, li_24, li_25, li_26, li_32, li_33, li_38, li_40, li_41, li_42, li_43, li_45, li_47, li_48, li_57, li_58, li_59, li_60, li_61, li_62, li_63, li_74, li_75, li_84, li_91, li_93, li_98, li_100, li_103, li_105, li_107, li_109, li_110, li_111, li_112, li_115, li_118, li_119, li_120, li_121, li_124, li_140, li_180, li_206, li_240, li_255, li_420, li_520, li_999, li_1000, li_1771, li_8240, li_9999, li_88200, li_1000000, li_2097151, li_31, nI_add, pk_mul, zz_sub, zz_an, nI_clamp, zz_leT, zz_leF, zz_ltT, zz_ltF, zz_eqF, zz_eqT, zz_m1, zz_m2, zz_m3, zz_m4, zz_m5, zz_m6, zz_ck, zz_bl, zz_b3, zz_b2, zz_shl, zz_bt0, zz_bt1, pk_div, Nat.zero_add, Nat.add_zero, if_true, if_false, reduceIte, Nat.mul_zero, zz_or0, zz_inT, zz_inF, g1, lw']
      · generalize hk : lo (wt ec rc μ j m f) μ 0 = k at *
        have wk : 1 + Bm ec rc μ j (m + 1) (rmv f k) = Bm ec rc μ (j + 1) m f := by
          have h3 : ((f k && rc m k) && decide (1 + Bm ec rc μ j (m + 1) (rmv f k) = Bm ec rc μ (j + 1) m f)) = true := l3
          simp at h3
          exact h3.2
        rw [if_neg (by omega)]
        have ih := pc_lr n d hd hn L hG j (m + 1) F (x &&& (nI (2 ^ k) ^^^ -nI 1)) (rmv f k) (10 * row + k) (by omega) (by omega) (fun i hi => by
          rw [andn_bit (by omega) (by omega)]
          unfold rmv
          split
          · rfl
          · exact hx i hi)
        rw [et] at ih
        have es : Bm ec rc μ (j + 1) m f - 1 = Bm ec rc μ j (m + 1) (rmv f k) := by omega
        rw [← ih, show 10 * row + k = row * 10 + k by omega, ← es]
        simp (disch := omega) only [fX1_leastRow_b18, fX1_leastRow_b18w, fX1_leastRow_b64, zz_lt, li_0, li_1, li_2, li_3, li_4, li_5, li_6, li_7, li_8, li_9, li_10, li_11, li_12, li_15, li_16, li_20, li_21, li_24, li_25, li_26, li_32, li_33, li_38, li_40, li_41, li_42, li_43, li_45, li_47, li_48, li_57, li_58, li_59, li_60, li_61, li_62, li_63, li_74, li_75, li_84, li_91, li_93, li_98, li_100, li_103, li_105, li_107, li_109, li_110, li_111, li_112, li_115, li_118, li_119, li_120, li_121, li_124, li_140, li_180, li_206, li_240, li_255, li_420, li_520, li_999, li_1000, li_1771, li_8240, li_9999, li_88200, li_1000000, li_2097151, li_31, nI_add, pk_mul, zz_sub, zz_an, nI_clamp, zz_leT, zz_leF, zz_ltT, zz_ltF, zz_eqF, zz_eqT, zz_m1, zz_m2, zz_m3, zz_m4, zz_m5, zz_m6, zz_ck, zz_bl, zz_b3, zz_b2, zz_shl, zz_bt0, zz_bt1, pk_div, Nat.zero_add, Nat.add_zero, if_true, if_false, reduceIte, Nat.mul_zero, zz_or0, zz_inT, zz_inF, g1, lw']
theorem op_escorts {g : Nat → Nat → Nat} {W : Nat → (Nat → Nat) → Int32} {q : Nat → Nat} {IC IM : am_I} (hg : GW g) (hl : GL q) (hc : CS IC g) (hH : CH IC W q g) (h : MS IM g) (hM : ML IM W q) (LC LM : am_L) (e0 e1 : Int32) : am_scr (fX11_escorts am_N 1900 e0 e1 IC LC) (fX12_escorts am_N 1900 e0 e1 IM LM) IC LC IM LM := by
  have gm := hg.1
  rcases side_of (g := g) e0 with he | ⟨s, hs, rfl, h0⟩
  · have w1 := pc_is0 hg hc am_N 1900 LC he
    have w2 := pm_is0 hg h am_N 1900 LM he
    exact ⟨-nI 1, IC, IM, by simp (disch := omega) only [fX11_escorts, zz_lt, li_0, li_1, li_2, li_3, li_4, li_5, li_6, li_7, li_8, li_9, li_10, li_11, li_12, li_15, li_16, li_20, li_21, li_24, li_25, li_26, li_32, li_33, li_38, li_40, li_41, li_42, li_43, li_45, li_47, li_48, li_57, li_58, li_59, li_60, li_61, li_62, li_63, li_74, li_75, li_84, li_91, li_93, li_98, li_100, li_103, li_105, li_107, li_109, li_110, li_111, li_112, li_115, li_118, li_119, li_120, li_121, li_124, li_140, li_180, li_206, li_240, li_255, li_420, li_520, li_999, li_1000, li_1771, li_8240, li_9999, li_88200, li_1000000, li_2097151, li_31, nI_add, pk_mul, zz_sub, zz_an, nI_clamp, zz_leT, zz_leF, zz_ltT, zz_ltF, zz_eqF, zz_eqT, zz_m1, zz_m2, zz_m3, zz_m4, zz_m5, zz_m6, zz_ck, zz_bl, zz_b3, zz_b2, zz_shl, zz_bt0, zz_bt1, pk_div, Nat.zero_add, Nat.add_zero, if_true, if_false, reduceIte, Nat.mul_zero, zz_or0, zz_inT, zz_inF, w1], by simp (disch := omega) only [fX12_escorts, zz_lt, li_0, li_1, li_2, li_3, li_4, li_5, li_6, li_7, li_8, li_9, li_10, li_11, li_12, li_15, li_16, li_20, li_21, li_24, li_25, li_26, li_32, li_33, li_38, li_40, li_41, li_42, li_43, li_45, li_47, li_48, li_57, li_58, li_59, li_60, li_61, li_62, li_63, li_74, li_75, li_84, li_91, li_93, li_98, li_100, li_103, li_105, li_107, li_109, li_110, li_111, li_112, li_115, li_118, li_119, li_120, li_121, li_124, li_140, li_180, li_206, li_240, li_255, li_420, li_520, li_999, li_1000, li_1771, li_8240, li_9999, li_88200, li_1000000, li_2097151, li_31, nI_add, pk_mul, zz_sub, zz_an, nI_clamp, zz_leT, zz_leF, zz_ltT, zz_ltF, zz_eqF, zz_eqT, zz_m1, zz_m2, zz_m3, zz_m4, zz_m5, zz_m6, zz_ck, zz_bl, zz_b3, zz_b2, zz_shl, zz_bt0, zz_bt1, pk_div, Nat.zero_add, Nat.add_zero, if_true, if_false, reduceIte, Nat.mul_zero, zz_or0, zz_inT, zz_inF, w2], ag_rf, ag_rf⟩
  · have w1 := pc_is1 hg hc am_N 1900 LC hs h0
    have w2 := pm_is1 hg h am_N 1900 LM hs h0
    rcases ix_of e1 (n := 2) (by omega) with he | ⟨w, hw, rfl⟩
    · refine ⟨-nI 1, IC, IM, ?_, ?_, ag_rf, ag_rf⟩
      · by_cases c : e1 < nI 0
        · simp (disch := omega) only [fX11_escorts, zz_lt, li_0, li_1, li_2, li_3, li_4, li_5, li_6, li_7, li_8, li_9, li_10, li_11, li_12, li_15, li_16, li_20, li_21, li_24, li_25, li_26, li_32, li_33, li_38, li_40, li_41, li_42, li_43, li_45, li_47, li_48, li_57, li_58, li_59, li_60, li_61, li_62, li_63, li_74, li_75, li_84, li_91, li_93, li_98, li_100, li_103, li_105, li_107, li_109, li_110, li_111, li_112, li_115, li_118, li_119, li_120, li_121, li_124, li_140, li_180, li_206, li_240, li_255, li_420, li_520, li_999, li_1000, li_1771, li_8240, li_9999, li_88200, li_1000000, li_2097151, li_31, nI_add, pk_mul, zz_sub, zz_an, nI_clamp, zz_leT, zz_leF, zz_ltT, zz_ltF, zz_eqF, zz_eqT, zz_m1, zz_m2, zz_m3, zz_m4, zz_m5, zz_m6, zz_ck, zz_bl, zz_b3, zz_b2, zz_shl, zz_bt0, zz_bt1, pk_div, Nat.zero_add, Nat.add_zero, if_true, if_false, reduceIte, Nat.mul_zero, zz_or0, zz_inT, zz_inF, w1, c]
        · have c2 : ¬ e1 ≤ nI 1 := by
            have := Int32.le_iff_toInt_le.mp (he.resolve_left c)
            rw [nI_toInt (by omega)] at this
            intro z
            have := Int32.le_iff_toInt_le.mp z
            rw [nI_toInt (by omega)] at this
            omega
          simp (disch := omega) only [fX11_escorts, zz_lt, li_0, li_1, li_2, li_3, li_4, li_5, li_6, li_7, li_8, li_9, li_10, li_11, li_12, li_15, li_16, li_20, li_21, li_24, li_25, li_26, li_32, li_33, li_38, li_40, li_41, li_42, li_43, li_45, li_47, li_48, li_57, li_58, li_59, li_60, li_61, li_62, li_63, li_74, li_75, li_84, li_91, li_93, li_98, li_100, li_103, li_105, li_107, li_109, li_110, li_111, li_112, li_115, li_118, li_119, li_120, li_121, li_124, li_140, li_180, li_206, li_240, li_255, li_420, li_520, li_999, li_1000, li_1771, li_8240, li_9999, li_88200, li_1000000, li_2097151, li_31, nI_add, pk_mul, zz_sub, zz_an, nI_clamp, zz_leT, zz_leF, zz_ltT, zz_ltF, zz_eqF, zz_eqT, zz_m1, zz_m2, zz_m3, zz_m4, zz_m5, zz_m6, zz_ck, zz_bl, zz_b3, zz_b2, zz_shl, zz_bt0, zz_bt1, pk_div, Nat.zero_add, Nat.add_zero, if_true, if_false, reduceIte, Nat.mul_zero, zz_or0, zz_inT, zz_inF, w1, c, c2]
      · have pi := pm_in0 am_N 1900 IM LM he (by omega)
        rw [show nI 2 - nI 1 = nI 1 from rfl] at pi
        simp (disch := omega) only [fX12_escorts, zz_lt, li_0, li_1, li_2, li_3, li_4, li_5, li_6, li_7, li_8, li_9, li_10, li_11, li_12, li_15, li_16, li_20, li_21, li_24, li_25, li_26, li_32, li_33, li_38, li_40, li_41, li_42, li_43, li_45, li_47, li_48, li_57, li_58, li_59, li_60, li_61, li_62, li_63, li_74, li_75, li_84, li_91, li_93, li_98, li_100, li_103, li_105, li_107, li_109, li_110, li_111, li_112, li_115, li_118, li_119, li_120, li_121, li_124, li_140, li_180, li_206, li_240, li_255, li_420, li_520, li_999, li_1000, li_1771, li_8240, li_9999, li_88200, li_1000000, li_2097151, li_31, nI_add, pk_mul, zz_sub, zz_an, nI_clamp, zz_leT, zz_leF, zz_ltT, zz_ltF, zz_eqF, zz_eqT, zz_m1, zz_m2, zz_m3, zz_m4, zz_m5, zz_m6, zz_ck, zz_bl, zz_b3, zz_b2, zz_shl, zz_bt0, zz_bt1, pk_div, Nat.zero_add, Nat.add_zero, if_true, if_false, reduceIte, Nat.mul_zero, zz_or0, zz_inT, zz_inF, w2, pi]
    · have pi := pm_in1 am_N 1900 IM LM hw (by omega)
      rw [show nI 2 - nI 1 = nI 1 from rfl] at pi
      -- the model
      obtain ⟨I1, x1, x2, x3, x4⟩ := pm_try (W := W) (q := q) hg hl hs am_N am_N2 LM (g 0 0) 0 1900 (by omega) (by omega) (am_up IM 0 35 (-nI 1)) 0 0 0 0 (fun _ => true) (MS_keep h (ag_up ag_rf rfl)) (ML_keep hl hM (ag_up ag_rf rfl)) (up_s rfl) (by omega) (by omega) (fun i hi => by rw [show bt (nI 0) i = false from b_0 i]; rfl) (by decide) (by omega)
      rw [if_pos (by omega), Nat.zero_add] at x3 x4
      have tr : fX12_tryEscorts am_N 1900 (nI 0) (nI s) (nI 0) (nI 0) (am_up IM 0 35 (-nI 1)) LM = some (I1, LM) := by
        unfold fX12_tryEscorts
        rw [show gX12_tryEscorts am_N 1900 0 (nI 0) (nI s) (nI 0) (nI 0) 0 (am_up IM 0 35 (-nI 1)) LM = some (0, I1, LM) from x1]
        rfl
      -- the class
      have agC : am_ag s58 IC (am_up IC 58 3 (nI 0)) := ag_up ag_rf rfl
      obtain ⟨I2, y1, y2, y3, y4⟩ := pc_gaL (W := W) (q := q) hg am_N 1900 am_N8 LC hs (g 0 0) 0 am_N (am_up IC 58 3 (nI 0)) (by omega) (by unfold am_N; omega) (CS_keep hc (ag_58 agC)) (CH_keep hH (ag_58 agC)) (up_s rfl) (fun m hm => by omega)
      have m2 : I2 3 0 = nI (g 0 0) := by rw [y4 3 0 rfl, am_up_ne (by omega)]; exact hc.1
      have hG : GA I2 (ecW W g (q 1) s) (rcW W g (q 1)) (g 0 0) := ⟨y2, m2, gm, y3⟩
      have ga : fX1_gather am_N 1900 (nI s) IC LC = some (I2, LC) := by
        unfold fX1_gather
        rw [zz_lt, zz_lt, li_0]
        exact y1
      have hx : ∀ i, i < g 0 0 → bt (nI (2 ^ g 0 0 - 1)) i = (fun _ => true) i := fun i hi => by rw [bt_mask _ gm i (by omega), decide_eq_true hi]
      have all : fX9_allBits_war am_N 1900 I2 LC = some (nI (2 ^ g 0 0 - 1), I2, LC) := by
        have p1 : 1 ≤ 2 ^ g 0 0 := Nat.one_le_two_pow
        simp (disch := omega) only [fX9_allBits_war, zz_lt, li_0, li_1, li_2, li_3, li_4, li_5, li_6, li_7, li_8, li_9, li_10, li_11, li_12, li_15, li_16, li_20, li_21, li_24, li_25, li_26, li_32, li_33, li_38, li_40, li_41, li_42, li_43, li_45, li_47, li_48, li_57, li_58, li_59, li_60, li_61, li_62, li_63, li_74, li_75, li_84, li_91, li_93, li_98, li_100, li_103, li_105, li_107, li_109, li_110, li_111, li_112, li_115, li_118, li_119, li_120, li_121, li_124, li_140, li_180, li_206, li_240, li_255, li_420, li_520, li_999, li_1000, li_1771, li_8240, li_9999, li_88200, li_1000000, li_2097151, li_31, nI_add, pk_mul, zz_sub, zz_an, nI_clamp, zz_leT, zz_leF, zz_ltT, zz_ltF, zz_eqF, zz_eqT, zz_m1, zz_m2, zz_m3, zz_m4, zz_m5, zz_m6, zz_ck, zz_bl, zz_b3, zz_b2, zz_shl, zz_bt0, zz_bt1, pk_div, Nat.zero_add, Nat.add_zero, if_true, if_false, reduceIte, Nat.mul_zero, zz_or0, zz_inT, zz_inF, m2]
      have mo := pc_mo am_N am_N8 LC hG (g 0 0) 0 1900 (by omega) (by omega) (nI (2 ^ g 0 0 - 1)) (fun _ => true) hx
      have mo' : fX1_mostFrom am_N 1900 (nI 0) (nI (2 ^ g 0 0 - 1)) I2 LC = some (nI (Bm (ecW W g (q 1) s) (rcW W g (q 1)) (g 0 0) (g 0 0) 0 (fun _ => true)), I2, LC) := mo
      have ms : fX1_most am_N 1900 I2 LC = some (nI (Bm (ecW W g (q 1) s) (rcW W g (q 1)) (g 0 0) (g 0 0) 0 (fun _ => true)), I2, LC) := by
        simp (disch := omega) only [fX1_most, zz_lt, li_0, li_1, li_2, li_3, li_4, li_5, li_6, li_7, li_8, li_9, li_10, li_11, li_12, li_15, li_16, li_20, li_21, li_24, li_25, li_26, li_32, li_33, li_38, li_40, li_41, li_42, li_43, li_45, li_47, li_48, li_57, li_58, li_59, li_60, li_61, li_62, li_63, li_74, li_75, li_84, li_91, li_93, li_98, li_100, li_103, li_105, li_107, li_109, li_110, li_111, li_112, li_115, li_118, li_119, li_120, li_121, li_124, li_140, li_180, li_206, li_240, li_255, li_420, li_520, li_999, li_1000, li_1771, li_8240, li_9999, li_88200, li_1000000, li_2097151, li_31, nI_add, pk_mul, zz_sub, zz_an, nI_clamp, zz_leT, zz_leF, zz_ltT, zz_ltF, zz_eqF, zz_eqT, zz_m1, zz_m2, zz_m3, zz_m4, zz_m5, zz_m6, zz_ck, zz_bl, zz_b3, zz_b2, zz_shl, zz_bt0, zz_bt1, pk_div, Nat.zero_add, Nat.add_zero, if_true, if_false, reduceIte, Nat.mul_zero, zz_or0, zz_inT, zz_inF, all, mo']
      have lr := pc_lr am_N 1900 (by omega) am_N8 LC hG (g 0 0) 0 am_N (nI (2 ^ g 0 0 - 1)) (fun _ => true) 0 (by omega) (by unfold am_N; omega) hx
      have lr' : fX1_leastRow_b18 am_N 1900 am_N (nI 0) (nI (2 ^ g 0 0 - 1)) (nI (Bm (ecW W g (q 1) s) (rcW W g (q 1)) (g 0 0) (g 0 0) 0 (fun _ => true))) (nI 0) I2 LC = _ := lr
      have lw : fX1_leastRow am_N 1900 I2 LC = some (nI (Rm (ecW W g (q 1) s) (rcW W g (q 1)) (g 0 0) (g 0 0) 0 (fun _ => true) 0), I2, LC) := by
        simp (disch := omega) only [fX1_leastRow, zz_lt, li_0, li_1, li_2, li_3, li_4, li_5, li_6, li_7, li_8, li_9, li_10, li_11, li_12, li_15, li_16, li_20, li_21, li_24, li_25, li_26, li_32, li_33, li_38, li_40, li_41, li_42, li_43, li_45, li_47, li_48, li_57, li_58, li_59, li_60, li_61, li_62, li_63, li_74, li_75, li_84, li_91, li_93, li_98, li_100, li_103, li_105, li_107, li_109, li_110, li_111, li_112, li_115, li_118, li_119, li_120, li_121, li_124, li_140, li_180, li_206, li_240, li_255, li_420, li_520, li_999, li_1000, li_1771, li_8240, li_9999, li_88200, li_1000000, li_2097151, li_31, nI_add, pk_mul, zz_sub, zz_an, nI_clamp, zz_leT, zz_leF, zz_ltT, zz_ltF, zz_eqF, zz_eqT, zz_m1, zz_m2, zz_m3, zz_m4, zz_m5, zz_m6, zz_ck, zz_bl, zz_b3, zz_b2, zz_shl, zz_bt0, zz_bt1, pk_div, Nat.zero_add, Nat.add_zero, if_true, if_false, reduceIte, Nat.mul_zero, zz_or0, zz_inT, zz_inF, all, ms, lr']
      by_cases c : w = 0
      · refine ⟨nI (Bm (ecW W g (q 1) s) (rcW W g (q 1)) (g 0 0) (g 0 0) 0 (fun _ => true)), I2, I1, ?_, ?_, ag_58 (ag_tr agC y4), ag_tr (ag_up ag_rf rfl) (ag_E x2)⟩
        · simp (disch := omega) only [fX11_escorts, zz_lt, li_0, li_1, li_2, li_3, li_4, li_5, li_6, li_7, li_8, li_9, li_10, li_11, li_12, li_15, li_16, li_20, li_21, li_24, li_25, li_26, li_32, li_33, li_38, li_40, li_41, li_42, li_43, li_45, li_47, li_48, li_57, li_58, li_59, li_60, li_61, li_62, li_63, li_74, li_75, li_84, li_91, li_93, li_98, li_100, li_103, li_105, li_107, li_109, li_110, li_111, li_112, li_115, li_118, li_119, li_120, li_121, li_124, li_140, li_180, li_206, li_240, li_255, li_420, li_520, li_999, li_1000, li_1771, li_8240, li_9999, li_88200, li_1000000, li_2097151, li_31, nI_add, pk_mul, zz_sub, zz_an, nI_clamp, zz_leT, zz_leF, zz_ltT, zz_ltF, zz_eqF, zz_eqT, zz_m1, zz_m2, zz_m3, zz_m4, zz_m5, zz_m6, zz_ck, zz_bl, zz_b3, zz_b2, zz_shl, zz_bt0, zz_bt1, pk_div, Nat.zero_add, Nat.add_zero, if_true, if_false, reduceIte, Nat.mul_zero, zz_or0, zz_inT, zz_inF, w1, ga, ms, c]
        · simp (disch := omega) only [fX12_escorts, zz_lt, li_0, li_1, li_2, li_3, li_4, li_5, li_6, li_7, li_8, li_9, li_10, li_11, li_12, li_15, li_16, li_20, li_21, li_24, li_25, li_26, li_32, li_33, li_38, li_40, li_41, li_42, li_43, li_45, li_47, li_48, li_57, li_58, li_59, li_60, li_61, li_62, li_63, li_74, li_75, li_84, li_91, li_93, li_98, li_100, li_103, li_105, li_107, li_109, li_110, li_111, li_112, li_115, li_118, li_119, li_120, li_121, li_124, li_140, li_180, li_206, li_240, li_255, li_420, li_520, li_999, li_1000, li_1771, li_8240, li_9999, li_88200, li_1000000, li_2097151, li_31, nI_add, pk_mul, zz_sub, zz_an, nI_clamp, zz_leT, zz_leF, zz_ltT, zz_ltF, zz_eqF, zz_eqT, zz_m1, zz_m2, zz_m3, zz_m4, zz_m5, zz_m6, zz_ck, zz_bl, zz_b3, zz_b2, zz_shl, zz_bt0, zz_bt1, pk_div, Nat.zero_add, Nat.add_zero, if_true, if_false, reduceIte, Nat.mul_zero, zz_or0, zz_inT, zz_inF, w2, pi, tr, c, x3, en_s]
      · refine ⟨nI (Rm (ecW W g (q 1) s) (rcW W g (q 1)) (g 0 0) (g 0 0) 0 (fun _ => true) 0), I2, I1, ?_, ?_, ag_58 (ag_tr agC y4), ag_tr (ag_up ag_rf rfl) (ag_E x2)⟩
        · simp (disch := omega) only [fX11_escorts, zz_lt, li_0, li_1, li_2, li_3, li_4, li_5, li_6, li_7, li_8, li_9, li_10, li_11, li_12, li_15, li_16, li_20, li_21, li_24, li_25, li_26, li_32, li_33, li_38, li_40, li_41, li_42, li_43, li_45, li_47, li_48, li_57, li_58, li_59, li_60, li_61, li_62, li_63, li_74, li_75, li_84, li_91, li_93, li_98, li_100, li_103, li_105, li_107, li_109, li_110, li_111, li_112, li_115, li_118, li_119, li_120, li_121, li_124, li_140, li_180, li_206, li_240, li_255, li_420, li_520, li_999, li_1000, li_1771, li_8240, li_9999, li_88200, li_1000000, li_2097151, li_31, nI_add, pk_mul, zz_sub, zz_an, nI_clamp, zz_leT, zz_leF, zz_ltT, zz_ltF, zz_eqF, zz_eqT, zz_m1, zz_m2, zz_m3, zz_m4, zz_m5, zz_m6, zz_ck, zz_bl, zz_b3, zz_b2, zz_shl, zz_bt0, zz_bt1, pk_div, Nat.zero_add, Nat.add_zero, if_true, if_false, reduceIte, Nat.mul_zero, zz_or0, zz_inT, zz_inF, w1, ga, lw]
        · simp (disch := omega) only [fX12_escorts, zz_lt, li_0, li_1, li_2, li_3, li_4, li_5, li_6, li_7, li_8, li_9, li_10, li_11, li_12, li_15, li_16, li_20, li_21, li_24, li_25, li_26, li_32, li_33, li_38, li_40, li_41, li_42, li_43, li_45, li_47, li_48, li_57, li_58, li_59, li_60, li_61, li_62, li_63, li_74, li_75, li_84, li_91, li_93, li_98, li_100, li_103, li_105, li_107, li_109, li_110, li_111, li_112, li_115, li_118, li_119, li_120, li_121, li_124, li_140, li_180, li_206, li_240, li_255, li_420, li_520, li_999, li_1000, li_1771, li_8240, li_9999, li_88200, li_1000000, li_2097151, li_31, nI_add, pk_mul, zz_sub, zz_an, nI_clamp, zz_leT, zz_leF, zz_ltT, zz_ltF, zz_eqF, zz_eqT, zz_m1, zz_m2, zz_m3, zz_m4, zz_m5, zz_m6, zz_ck, zz_bl, zz_b3, zz_b2, zz_shl, zz_bt0, zz_bt1, pk_div, Nat.zero_add, Nat.add_zero, if_true, if_false, reduceIte, Nat.mul_zero, zz_or0, zz_inT, zz_inF, w2, pi, tr, x4]
