/-! PURE: clauses kept in the draft by the class. -/
theorem pc_adM {g : Nat → Nat → Nat} {v : Nat → Nat} {told : Nat} (hg : GD g) {I : am_I} (h : DC I g told) (n d : Nat) (L : am_L) (h8 : g 0 0 < 8) (hv : ∀ k, k < 6 → I 26 (0 + k) = nI (v k) ∧ lwT (0 + k) ≤ v k ∧ v k ≤ hgT (0 + k)) : ∃ I', fX9_addMan_draft_c25_items n d I L = some (I', L) ∧ DC I' (adM g v) told ∧ GD (adM g v) ∧ am_ag sDr I I' := by
  obtain ⟨d0, d1, d2, d3, d4, d5, e1, e2, e3, e4, e5, e6, f1, f2, f3, s0, s1⟩ := h
  have w0 := (hv 0 (by omega)).1
  have w1 := (hv 1 (by omega)).1
  have w2 := (hv 2 (by omega)).1
  have w3 := (hv 3 (by omega)).1
  have w4 := (hv 4 (by omega)).1
  have w5 := (hv 5 (by omega)).1
  simp only [Nat.zero_add] at w0 w1 w2 w3 w4 w5
  have b0 : v 0 ≤ 1 := (hv 0 (by omega)).2.2
  have b1 : v 1 ≤ 20 := (hv 1 (by omega)).2.2
  have b2 : 1 ≤ v 2 ∧ v 2 ≤ 5 := (hv 2 (by omega)).2
  have b3 : v 3 ≤ 1 := (hv 3 (by omega)).2.2
  have b4 : v 4 ≤ 9 := (hv 4 (by omega)).2.2
  have b5 : v 5 ≤ 9 := (hv 5 (by omega)).2.2
  refine ⟨(am_up (am_up (am_up (am_up (am_up (am_up (am_up (am_up I 15 (g 0 0) (nI (v 0))) 16 (g 0 0) (nI (v 1))) 17 (g 0 0) (nI (v 2))) 18 (g 0 0) (nI (v 3))) 19 (g 0 0) (nI (v 4))) 20 (g 0 0) (nI (v 5))) 24 (v 0) (I 24 (v 0) ||| nI (2 ^ g 0 0))) 14 0 (nI (g 0 0 + 1))), ?_, ?_, ?_, ?_⟩
  · rcases (by omega : v 0 = 0 ∨ v 0 = 1) with c | c <;> (rw [c] at w0; simp (disch := omega) only [fX9_addMan_draft_c25_items, fX9_addMan_draft_c25_items_b37, fX9_addMan_draft_c25_items_b114, zz_lt, li_0, li_1, li_2, li_3, li_4, li_5, li_6, li_7, li_8, li_9, li_10, li_11, li_12, li_15, li_16, li_20, li_21, li_24, li_25, li_26, li_32, li_33, li_38, li_40, li_41, li_42, li_43, li_45, li_47, li_48, li_57, li_58, li_59, li_60, li_61, li_62, li_63, li_74, li_75, li_84, li_91, li_93, li_98, li_100, li_103, li_105, li_107, li_109, li_110, li_111, li_112, li_115, li_118, li_119, li_120, li_121, li_124, li_140, li_180, li_206, li_240, li_255, li_420, li_520, li_999, li_1000, li_1771, li_8240, li_9999, li_88200, li_1000000, li_2097151, li_31, nI_add, pk_mul, zz_sub, zz_an, nI_clamp, zz_leT, zz_leF, zz_ltT, zz_ltF, zz_eqF, zz_eqT, zz_m1, zz_m2, zz_m3, zz_m4, zz_m5, zz_m6, zz_ck, zz_bl, zz_b3, zz_b2, zz_shl, zz_bt0, zz_bt1, pk_div, Nat.zero_add, Nat.add_zero, if_true, if_false, reduceIte, Nat.mul_zero, zz_or0, zz_inT, zz_inF, d0, w0, w1, w2, w3, w4, w5, am_up_ne, c])
  · have old : ∀ p m, 1 ≤ p → p ≤ 6 → m ≠ g 0 0 → adM g v p m = g p m := fun p m h1 h2 h3 => adM_o g v (by omega) (Or.inl h3)
    have a0 : adM g v 0 0 = g 0 0 + 1 := adM_0 g v
    have a1 : adM g v 0 1 = g 0 1 := adM_q g v (by omega)
    have r78 : ∀ j, adM g v 7 j = g 7 j ∧ adM g v 8 j = g 8 j := fun j => ⟨adM_o g v (by omega) (Or.inr (by omega)), adM_o g v (by omega) (Or.inr (by omega))⟩
    refine ⟨?_, ?_, ?_, ?_, ?_, ?_, ?_, ?_, ?_, ?_, ?_, ?_, ?_, ?_, ?_, ?_, ?_⟩
    · rw [up_s rfl, a0]
    · rw [up_n (by omega), a1]; simp (disch := omega) only [am_up_ne]; exact d1
    · rw [up_n (by omega), adM_q g v (by omega)]; simp (disch := omega) only [am_up_ne]; exact d2
    · rw [up_n (by omega), adM_q g v (by omega)]; simp (disch := omega) only [am_up_ne]; exact d3
    · rw [up_n (by omega), a1, apt_ext _ (fun j _ => r78 j)]; simp (disch := omega) only [am_up_ne]; exact d4
    · simp (disch := omega) only [am_up_ne]; exact d5
    · intro m hm
      rw [a0] at hm
      simp (disch := omega) only [am_up_ne]
      by_cases c : m = g 0 0
      · rw [up_s c, adM_n g v (by omega) c]
      · rw [up_n c, old 1 m (by omega) (by omega) c]; exact e1 m (by omega)
    · intro m hm
      rw [a0] at hm
      simp (disch := omega) only [am_up_ne]
      by_cases c : m = g 0 0
      · rw [up_s c, adM_n g v (by omega) c]
      · rw [up_n c, old 2 m (by omega) (by omega) c]; simp (disch := omega) only [am_up_ne]; exact e2 m (by omega)
    · intro m hm
      rw [a0] at hm
      simp (disch := omega) only [am_up_ne]
      by_cases c : m = g 0 0
      · rw [up_s c, adM_n g v (by omega) c]
      · rw [up_n c, old 3 m (by omega) (by omega) c]; simp (disch := omega) only [am_up_ne]; exact e3 m (by omega)
    · intro m hm
      rw [a0] at hm
      simp (disch := omega) only [am_up_ne]
      by_cases c : m = g 0 0
      · rw [up_s c, adM_n g v (by omega) c]
      · rw [up_n c, old 4 m (by omega) (by omega) c]; simp (disch := omega) only [am_up_ne]; exact e4 m (by omega)
    · intro m hm
      rw [a0] at hm
      simp (disch := omega) only [am_up_ne]
      by_cases c : m = g 0 0
      · rw [up_s c, adM_n g v (by omega) c]
      · rw [up_n c, old 5 m (by omega) (by omega) c]; simp (disch := omega) only [am_up_ne]; exact e5 m (by omega)
    · intro m hm
      rw [a0] at hm
      simp (disch := omega) only [am_up_ne]
      by_cases c : m = g 0 0
      · rw [up_s c, adM_n g v (by omega) c]
      · rw [up_n c, old 6 m (by omega) (by omega) c]; simp (disch := omega) only [am_up_ne]; exact e6 m (by omega)
    · intro m hm
      rw [a1] at hm
      rw [(r78 m).1]; simp (disch := omega) only [am_up_ne]; exact f1 m hm
    · intro m hm
      rw [a1] at hm
      rw [(r78 m).2]; simp (disch := omega) only [am_up_ne]; exact f2 m hm
    · intro s hs
      rw [a1, rl_ext s _ (fun j _ => r78 j)]; simp (disch := omega) only [am_up_ne]; exact f3 s hs
    · rw [a0, am_up_ne (by omega)]
      show _ = am_bits (fun m => decide (adM g v 1 m = 0)) (g 0 0) ||| (if decide (adM g v 1 (g 0 0) = 0) = true then nI (2 ^ g 0 0) else nI 0)
      rw [bits_ext (q := fun m => decide (g 1 m = 0)) (fun i hi => by rw [old 1 i (by omega) (by omega) (by omega)]), adM_n g v (by omega) rfl, Nat.sub_self]
      by_cases c : v 0 = 0
      · rw [up_s c.symm, decide_eq_true c, if_pos rfl, c, s0]
      · rw [up_n (fun z => c z.symm), decide_eq_false c, if_neg (by decide), zz_or0]
        simp (disch := omega) only [am_up_ne]
        exact s0
    · rw [a0, am_up_ne (by omega)]
      show _ = am_bits (fun m => decide (adM g v 1 m = 1)) (g 0 0) ||| (if decide (adM g v 1 (g 0 0) = 1) = true then nI (2 ^ g 0 0) else nI 0)
      rw [bits_ext (q := fun m => decide (g 1 m = 1)) (fun i hi => by rw [old 1 i (by omega) (by omega) (by omega)]), adM_n g v (by omega) rfl, Nat.sub_self]
      by_cases c : v 0 = 1
      · rw [up_s c.symm, decide_eq_true c, if_pos rfl, c, s1]
      · rw [up_n (fun z => c z.symm), decide_eq_false c, if_neg (by decide), zz_or0]
        simp (disch := omega) only [am_up_ne]
        exact s1
  · obtain ⟨q1, q2, q3, q4, q5, q6⟩ := hg
    refine ⟨by rw [adM_0]; omega, by rw [adM_q g v (by omega)]; exact q2, by rw [adM_q g v (by omega)]; exact q3, by rw [adM_q g v (by omega)]; exact q4, fun m hm => ?_, fun o ho => ?_⟩
    · rw [adM_0] at hm
      by_cases c : m = g 0 0
      · rw [adM_n g v (by omega) c, adM_n g v (by omega) c, adM_n g v (by omega) c, adM_n g v (by omega) c, adM_n g v (by omega) c, adM_n g v (by omega) c]
        exact ⟨b0, b1, b2.1, b2.2, b3, b4, b5⟩
      · rw [adM_o g v (by omega) (Or.inl c), adM_o g v (by omega) (Or.inl c), adM_o g v (by omega) (Or.inl c), adM_o g v (by omega) (Or.inl c), adM_o g v (by omega) (Or.inl c), adM_o g v (by omega) (Or.inl c)]
        exact q5 m (by omega)
    · rw [adM_q g v (by omega)] at ho
      rw [adM_o g v (by omega) (Or.inr (by omega)), adM_o g v (by omega) (Or.inr (by omega))]
      exact q6 o ho
  · exact ag_up (ag_up (ag_up (ag_up (ag_up (ag_up (ag_up (ag_up ag_rf (sDr_k (by omega))) (sDr_k (by omega))) (sDr_k (by omega))) (sDr_k (by omega))) (sDr_k (by omega))) (sDr_k (by omega))) (sDr_k (by omega))) (sDr_k (by omega))
theorem rl_le {g : Nat → Nat → Nat} (hg : GD g) (s : Nat) : ∀ i, i ≤ g 0 1 → rl g s i ≤ 9
  | 0, _ => Nat.zero_le _
  | i + 1, h => by
    have := rl_le hg s i (by omega)
    have := hg.2.2.2.2.2 i (by omega)
    unfold rl
    split <;> omega
theorem pc_adO {g : Nat → Nat → Nat} {v : Nat → Nat} {told : Nat} (hg : GD g) {I : am_I} (h : DC I g told) (n d : Nat) (L : am_L) (h6 : g 0 1 < 6) (hv : ∀ k, k < 2 → lwT (6 + k) ≤ v k ∧ v k ≤ hgT (6 + k)) : ∃ I', fX9_addOrchard_draft n d (nI (v 0)) (nI (v 1)) I L = some (I', L) ∧ DC I' (adO g v) told ∧ GD (adO g v) ∧ am_ag sDr I I' := by
  obtain ⟨d0, d1, d2, d3, d4, d5, e1, e2, e3, e4, e5, e6, f1, f2, f3, s0, s1⟩ := h
  have b0 : 1 ≤ v 0 ∧ v 0 ≤ 20 := hv 0 (by omega)
  have b1 : 1 ≤ v 1 ∧ v 1 ≤ 9 := hv 1 (by omega)
  have r1 := f3 (v 0) (by omega)
  have rle := rl_le hg (v 0) (g 0 1) (Nat.le_refl _)
  have a0 : adO g v 0 0 = g 0 0 := adO_q g v (by omega)
  have a1 : adO g v 0 1 = g 0 1 + 1 := adO_1 g v
  have old : ∀ j, j < g 0 1 → adO g v 7 j = g 7 j ∧ adO g v 8 j = g 8 j := fun j hj => ⟨adO_o g v (by omega) (Or.inl (by omega)), adO_o g v (by omega) (Or.inl (by omega))⟩
  have rows : ∀ p m, p ≠ 0 → p ≠ 7 → p ≠ 8 → adO g v p m = g p m := fun p m h1 h2 h3 => adO_o g v h1 (Or.inr ⟨h2, h3⟩)
  refine ⟨(am_up (am_up (am_up (am_up (am_up I 14 4 (nI (apt g (g 0 1) && decide (rl g (v 0) (g 0 1) = 0)).toNat)) 21 (g 0 1) (nI (v 0))) 22 (g 0 1) (nI (v 1))) 23 (v 0) (nI (v 1))) 14 1 (nI (g 0 1 + 1))), ?_, ?_, ?_, ?_⟩
  · cases c : apt g (g 0 1)
    · rw [c] at d4
      simp (disch := omega) only [fX9_addOrchard_draft, fX9_addOrchard_draft_b42, fX9_addOrchard_draft_b43, zz_lt, li_0, li_1, li_2, li_3, li_4, li_5, li_6, li_7, li_8, li_9, li_10, li_11, li_12, li_15, li_16, li_20, li_21, li_24, li_25, li_26, li_32, li_33, li_38, li_40, li_41, li_42, li_43, li_45, li_47, li_48, li_57, li_58, li_59, li_60, li_61, li_62, li_63, li_74, li_75, li_84, li_91, li_93, li_98, li_100, li_103, li_105, li_107, li_109, li_110, li_111, li_112, li_115, li_118, li_119, li_120, li_121, li_124, li_140, li_180, li_206, li_240, li_255, li_420, li_520, li_999, li_1000, li_1771, li_8240, li_9999, li_88200, li_1000000, li_2097151, li_31, nI_add, pk_mul, zz_sub, zz_an, nI_clamp, zz_leT, zz_leF, zz_ltT, zz_ltF, zz_eqF, zz_eqT, zz_m1, zz_m2, zz_m3, zz_m4, zz_m5, zz_m6, zz_ck, zz_bl, zz_b3, zz_b2, zz_shl, zz_bt0, zz_bt1, pk_div, Nat.zero_add, Nat.add_zero, if_true, if_false, reduceIte, Nat.mul_zero, zz_or0, zz_inT, zz_inF, d1, d4, up_n, am_up_ne, Bool.toNat_false, Bool.false_and]
    · rw [c] at d4
      by_cases c2 : rl g (v 0) (g 0 1) = 0
      · rw [c2] at r1
        simp (disch := omega) only [fX9_addOrchard_draft, fX9_addOrchard_draft_b42, fX9_addOrchard_draft_b43, zz_lt, li_0, li_1, li_2, li_3, li_4, li_5, li_6, li_7, li_8, li_9, li_10, li_11, li_12, li_15, li_16, li_20, li_21, li_24, li_25, li_26, li_32, li_33, li_38, li_40, li_41, li_42, li_43, li_45, li_47, li_48, li_57, li_58, li_59, li_60, li_61, li_62, li_63, li_74, li_75, li_84, li_91, li_93, li_98, li_100, li_103, li_105, li_107, li_109, li_110, li_111, li_112, li_115, li_118, li_119, li_120, li_121, li_124, li_140, li_180, li_206, li_240, li_255, li_420, li_520, li_999, li_1000, li_1771, li_8240, li_9999, li_88200, li_1000000, li_2097151, li_31, nI_add, pk_mul, zz_sub, zz_an, nI_clamp, zz_leT, zz_leF, zz_ltT, zz_ltF, zz_eqF, zz_eqT, zz_m1, zz_m2, zz_m3, zz_m4, zz_m5, zz_m6, zz_ck, zz_bl, zz_b3, zz_b2, zz_shl, zz_bt0, zz_bt1, pk_div, Nat.zero_add, Nat.add_zero, if_true, if_false, reduceIte, Nat.mul_zero, zz_or0, zz_inT, zz_inF, d1, d4, r1, up_n, am_up_ne, Bool.toNat_true, Bool.true_and, c2, decide_true]
      · simp (disch := omega) only [fX9_addOrchard_draft, fX9_addOrchard_draft_b42, fX9_addOrchard_draft_b43, zz_lt, li_0, li_1, li_2, li_3, li_4, li_5, li_6, li_7, li_8, li_9, li_10, li_11, li_12, li_15, li_16, li_20, li_21, li_24, li_25, li_26, li_32, li_33, li_38, li_40, li_41, li_42, li_43, li_45, li_47, li_48, li_57, li_58, li_59, li_60, li_61, li_62, li_63, li_74, li_75, li_84, li_91, li_93, li_98, li_100, li_103, li_105, li_107, li_109, li_110, li_111, li_112, li_115, li_118, li_119, li_120, li_121, li_124, li_140, li_180, li_206, li_240, li_255, li_420, li_520, li_999, li_1000, li_1771, li_8240, li_9999, li_88200, li_1000000, li_2097151, li_31, nI_add, pk_mul, zz_sub, zz_an, nI_clamp, zz_leT, zz_leF, zz_ltT, zz_ltF, zz_eqF, zz_eqT, zz_m1, zz_m2, zz_m3, zz_m4, zz_m5, zz_m6, zz_ck, zz_bl, zz_b3, zz_b2, zz_shl, zz_bt0, zz_bt1, pk_div, Nat.zero_add, Nat.add_zero, if_true, if_false, reduceIte, Nat.mul_zero, zz_or0, zz_inT, zz_inF, d1, d4, r1, up_n, am_up_ne, Bool.toNat_true, Bool.toNat_false, Bool.true_and, c2, decide_false]
  · refine ⟨?_, ?_, ?_, ?_, ?_, ?_, ?_, ?_, ?_, ?_, ?_, ?_, ?_, ?_, ?_, ?_, ?_⟩
    · rw [a0]; simp (disch := omega) only [am_up_ne, up_n]; exact d0
    · rw [up_s rfl, a1]
    · rw [adO_q g v (by omega)]; simp (disch := omega) only [am_up_ne, up_n]; exact d2
    · rw [adO_q g v (by omega)]; simp (disch := omega) only [am_up_ne, up_n]; exact d3
    · rw [a1]
      have e : apt (adO g v) (g 0 1 + 1) = (apt g (g 0 1) && decide (rl g (v 0) (g 0 1) = 0)) := by
        show (apt (adO g v) (g 0 1) && decide (rl (adO g v) (adO g v 7 (g 0 1)) (g 0 1) = 0)) = _
        rw [apt_ext _ old, adO_n g v (by omega) rfl, rl_ext _ _ old]
      rw [e]
      simp (disch := omega) only [am_up_ne, up_n, up_s]
    · simp (disch := omega) only [am_up_ne]; exact d5
    · intro m hm
      rw [a0] at hm
      rw [rows 1 m (by omega) (by omega) (by omega)]
      simp (disch := omega) only [am_up_ne]
      exact e1 m hm
    · intro m hm
      rw [a0] at hm
      rw [rows 2 m (by omega) (by omega) (by omega)]
      simp (disch := omega) only [am_up_ne]
      exact e2 m hm
    · intro m hm
      rw [a0] at hm
      rw [rows 3 m (by omega) (by omega) (by omega)]
      simp (disch := omega) only [am_up_ne]
      exact e3 m hm
    · intro m hm
      rw [a0] at hm
      rw [rows 4 m (by omega) (by omega) (by omega)]
      simp (disch := omega) only [am_up_ne]
      exact e4 m hm
    · intro m hm
      rw [a0] at hm
      rw [rows 5 m (by omega) (by omega) (by omega)]
      simp (disch := omega) only [am_up_ne]
      exact e5 m hm
    · intro m hm
      rw [a0] at hm
      rw [rows 6 m (by omega) (by omega) (by omega)]
      simp (disch := omega) only [am_up_ne]
      exact e6 m hm
    · intro m hm
      rw [a1] at hm
      simp (disch := omega) only [am_up_ne]
      by_cases c : m = g 0 1
      · rw [up_s c, adO_n g v (by omega) c]
      · rw [up_n c, (old m (by omega)).1]; simp (disch := omega) only [am_up_ne]; exact f1 m (by omega)
    · intro m hm
      rw [a1] at hm
      simp (disch := omega) only [am_up_ne]
      by_cases c : m = g 0 1
      · rw [up_s c, adO_n g v (by omega) c]
      · rw [up_n c, (old m (by omega)).2]; simp (disch := omega) only [am_up_ne]; exact f2 m (by omega)
    · intro s hs
      rw [a1]
      have e : rl (adO g v) s (g 0 1 + 1) = if v 0 = s then v 1 else rl g s (g 0 1) := by
        show (if adO g v 7 (g 0 1) = s then adO g v 8 (g 0 1) else rl (adO g v) s (g 0 1)) = _
        rw [adO_n g v (by omega) rfl, adO_n g v (by omega) rfl, rl_ext s _ old]
      rw [e, am_up_ne (by omega)]
      by_cases c : v 0 = s
      · rw [up_s c.symm, if_pos c]
      · rw [up_n (fun z => c z.symm), if_neg c]; simp (disch := omega) only [am_up_ne]; exact f3 s hs
    · rw [a0, bits_ext (q := fun m => decide (g 1 m = 0)) (fun i hi => by rw [rows 1 i (by omega) (by omega) (by omega)])]; simp (disch := omega) only [am_up_ne]; exact s0
    · rw [a0, bits_ext (q := fun m => decide (g 1 m = 1)) (fun i hi => by rw [rows 1 i (by omega) (by omega) (by omega)])]; simp (disch := omega) only [am_up_ne]; exact s1
  · obtain ⟨q1, q2, q3, q4, q5, q6⟩ := hg
    refine ⟨by rw [a0]; exact q1, by rw [a1]; omega, by rw [adO_q g v (by omega)]; exact q3, by rw [adO_q g v (by omega)]; exact q4, fun m hm => ?_, fun o ho => ?_⟩
    · rw [a0] at hm
      rw [rows 1 m (by omega) (by omega) (by omega), rows 2 m (by omega) (by omega) (by omega), rows 3 m (by omega) (by omega) (by omega), rows 4 m (by omega) (by omega) (by omega), rows 5 m (by omega) (by omega) (by omega), rows 6 m (by omega) (by omega) (by omega)]
      exact q5 m hm
    · rw [a1] at ho
      by_cases c : o = g 0 1
      · rw [adO_n g v (by omega) c, adO_n g v (by omega) c]
        exact ⟨b0.1, b0.2, b1.1, b1.2⟩
      · rw [(old o (by omega)).1, (old o (by omega)).2]
        exact q6 o (by omega)
  · exact ag_up (ag_up (ag_up (ag_up (ag_up ag_rf (sDr_k (by omega))) (sDr_k (by omega))) (sDr_k (by omega))) (sDr_k (by omega))) (sDr_k (by omega))
theorem pc_adH {g : Nat → Nat → Nat} {v : Nat → Nat} {told : Nat} (hg : GD g) {I : am_I} (h : DC I g told) (hv : ∀ k, k < 2 → lwT (8 + k) ≤ v k ∧ v k ≤ hgT (8 + k)) : DC (am_up (am_up (am_up I 14 2 (nI (v 0))) 14 3 (nI (v 1))) 25 5 (nI 1)) (adH g v) 1 ∧ GD (adH g v) ∧ am_ag sDr I (am_up (am_up (am_up I 14 2 (nI (v 0))) 14 3 (nI (v 1))) 25 5 (nI 1)) := by
  obtain ⟨d0, d1, d2, d3, d4, d5, e1, e2, e3, e4, e5, e6, f1, f2, f3, s0, s1⟩ := h
  have b0 : v 0 ≤ 9 := (hv 0 (by omega)).2
  have b1 : v 1 ≤ 1 := (hv 1 (by omega)).2
  have rows : ∀ p m, p ≠ 0 → adH g v p m = g p m := fun p m h1 => adH_o g v (Or.inl h1)
  have a0 : adH g v 0 0 = g 0 0 := adH_o g v (Or.inr (by omega))
  have a1 : adH g v 0 1 = g 0 1 := adH_o g v (Or.inr (by omega))
  have r78 : ∀ j, adH g v 7 j = g 7 j ∧ adH g v 8 j = g 8 j := fun j => ⟨rows 7 j (by omega), rows 8 j (by omega)⟩
  refine ⟨⟨?_, ?_, ?_, ?_, ?_, up_s rfl, ?_, ?_, ?_, ?_, ?_, ?_, ?_, ?_, ?_, ?_, ?_⟩, ?_, ag_up (ag_up (ag_up ag_rf (sDr_k (by omega))) (sDr_k (by omega))) rfl⟩
  · rw [a0]; simp (disch := omega) only [am_up_ne, up_n]; exact d0
  · rw [a1]; simp (disch := omega) only [am_up_ne, up_n]; exact d1
  · rw [am_up_ne (by omega), up_n (by omega), up_s rfl, adH_2]
  · rw [am_up_ne (by omega), up_s rfl, adH_3]
  · rw [a1, apt_ext _ (fun j _ => r78 j)]; simp (disch := omega) only [am_up_ne, up_n]; exact d4
  · intro m hm
    rw [a0] at hm
    rw [rows 1 m (by omega)]
    simp (disch := omega) only [am_up_ne]
    exact e1 m hm
  · intro m hm
    rw [a0] at hm
    rw [rows 2 m (by omega)]
    simp (disch := omega) only [am_up_ne]
    exact e2 m hm
  · intro m hm
    rw [a0] at hm
    rw [rows 3 m (by omega)]
    simp (disch := omega) only [am_up_ne]
    exact e3 m hm
  · intro m hm
    rw [a0] at hm
    rw [rows 4 m (by omega)]
    simp (disch := omega) only [am_up_ne]
    exact e4 m hm
  · intro m hm
    rw [a0] at hm
    rw [rows 5 m (by omega)]
    simp (disch := omega) only [am_up_ne]
    exact e5 m hm
  · intro m hm
    rw [a0] at hm
    rw [rows 6 m (by omega)]
    simp (disch := omega) only [am_up_ne]
    exact e6 m hm
  · intro m hm
    rw [a1] at hm
    rw [(r78 m).1]; simp (disch := omega) only [am_up_ne]; exact f1 m hm
  · intro m hm
    rw [a1] at hm
    rw [(r78 m).2]; simp (disch := omega) only [am_up_ne]; exact f2 m hm
  · intro s hs
    rw [a1, rl_ext s _ (fun j _ => r78 j)]; simp (disch := omega) only [am_up_ne]; exact f3 s hs
  · rw [a0, bits_ext (q := fun m => decide (g 1 m = 0)) (fun i hi => by rw [rows 1 i (by omega)])]; simp (disch := omega) only [am_up_ne]; exact s0
  · rw [a0, bits_ext (q := fun m => decide (g 1 m = 1)) (fun i hi => by rw [rows 1 i (by omega)])]; simp (disch := omega) only [am_up_ne]; exact s1
  · obtain ⟨q1, q2, q3, q4, q5, q6⟩ := hg
    refine ⟨by rw [a0]; exact q1, by rw [a1]; exact q2, by rw [adH_2]; omega, by rw [adH_3]; omega, fun m hm => ?_, fun o ho => ?_⟩
    · rw [a0] at hm
      rw [rows 1 m (by omega), rows 2 m (by omega), rows 3 m (by omega), rows 4 m (by omega), rows 5 m (by omega), rows 6 m (by omega)]
      exact q5 m hm
    · rw [a1] at ho
      rw [(r78 o).1, (r78 o).2]
      exact q6 o ho
