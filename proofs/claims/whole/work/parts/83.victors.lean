/-! PURE: champion, victors: the operations. -/
theorem best_p (p : Nat → Bool) (v : Nat → Nat) : ∀ i b, am_best p v i = b + 1 → p b = true ∧ b < i
  | 0, b, h => by have : 0 = b + 1 := h; omega
  | i + 1, b, h => by
    unfold am_best at h
    split at h
    · rename_i c
      have : i = b := by omega
      subst this
      exact ⟨c.1, by omega⟩
    · have := best_p p v i b h
      exact ⟨this.1, by omega⟩
theorem pc_chL {g : Nat → Nat → Nat} (hg : GW g) (n d : Nat) {I : am_I} (h : CS I g) (L : am_L) {s : Nat} (hs : s < 2) (h66 : ∀ m, m < g 0 0 → g 1 m = s → 0 < g 9 m → I 66 m = nI (tot g s m 6)) : ∀ (j i F : Nat), i + j = g 0 0 → j < F → fX11_champion_t_b19 n d F (nI s) (zn (am_best (fun m => decide (g 1 m = s ∧ 0 < g 9 m)) (fun m => tot g s m 6) i)) (nI i) I L = some (zn (am_best (fun m => decide (g 1 m = s ∧ 0 < g 9 m)) (fun m => tot g s m 6) (g 0 0)), I, L)
  | _, _, 0, _, f => by omega
  | 0, i, F + 1, e, f => by
    have gm := hg.1
    have e1 : i = g 0 0 := by omega
    subst e1
    have hmn := h.1
    simp (disch := omega) only [fX11_champion_t_b19, fX11_champion_t_b19w, zz_lt, li_0, li_1, li_2, li_3, li_4, li_5, li_6, li_7, li_8, li_9, li_10, li_11, li_12, li_15, li_16, li_20, li_21, li_24, li_25, li_26, li_32, li_33, li_38, li_40, li_41, li_42, li_43, li_45, li_47, li_48, li_57, li_58, li_59, li_60, li_61, li_62, li_63, li_74, li_75, li_84, li_91, li_93, li_98, li_100, li_103, li_105, li_107, li_109, li_110, li_111, li_112, li_115, li_118, li_119, li_120, li_121, li_124, li_140, li_180, li_206, li_240, li_255, li_420, li_520, li_999, li_1000, li_1771, li_8240, li_9999, li_88200, li_1000000, li_2097151, li_31, nI_add, pk_mul, zz_sub, zz_an, nI_clamp, zz_leT, zz_leF, zz_ltT, zz_ltF, zz_eqF, zz_eqT, zz_m1, zz_m2, zz_m3, zz_m4, zz_m5, zz_m6, zz_ck, zz_bl, zz_b3, zz_b2, zz_shl, zz_bt0, zz_bt1, pk_div, Nat.zero_add, Nat.add_zero, if_true, if_false, reduceIte, Nat.mul_zero, zz_or0, zz_inT, zz_inF, hmn]
  | j + 1, i, F + 1, e, f => by
    have gm := hg.1
    have hmn := h.1
    have i1 : i < g 0 0 := by omega
    have t0 := h.2.2.2.2.2.1 i i1
    have b1 := hg.2.2.2.2.2.1 i i1
    have cg := pc_canGo hg h n d L i1
    have ih := pc_chL hg n d h L hs h66 j (i + 1) F (by omega) (by omega)
    have ti := tot_le hg s i 6
    have bp := best_p (fun m => decide (g 1 m = s ∧ 0 < g 9 m)) (fun m => tot g s m 6) i
    have nx : am_best (fun m => decide (g 1 m = s ∧ 0 < g 9 m)) (fun m => tot g s m 6) (i + 1) = if (g 1 i = s ∧ 0 < g 9 i) ∧ (am_best (fun m => decide (g 1 m = s ∧ 0 < g 9 m)) (fun m => tot g s m 6) i = 0 ∨ tot g s (am_best (fun m => decide (g 1 m = s ∧ 0 < g 9 m)) (fun m => tot g s m 6) i - 1) 6 < tot g s i 6) then i + 1 else am_best (fun m => decide (g 1 m = s ∧ 0 < g 9 m)) (fun m => tot g s m 6) i := by
      show (if decide (g 1 i = s ∧ 0 < g 9 i) = true ∧ _ then _ else _) = _
      simp only [decide_eq_true_eq]
    generalize am_best (fun m => decide (g 1 m = s ∧ 0 < g 9 m)) (fun m => tot g s m 6) i = B at bp nx
    rw [nx] at ih
    by_cases c1 : g 1 i = s
    · by_cases c2 : 0 < g 9 i
      · rw [if_pos c2] at cg
        have hi := h66 i i1 c1 c2
        match B, bp, ih with
        | 0, bp, ih =>
          rw [if_pos ⟨⟨c1, c2⟩, Or.inl rfl⟩, en_s] at ih
          rw [en_0]
          simp (disch := omega) only [fX11_champion_t_b19, fX11_champion_t_b19w, fX11_champion_t_b74, fX11_champion_t_b76, zz_lt, li_0, li_1, li_2, li_3, li_4, li_5, li_6, li_7, li_8, li_9, li_10, li_11, li_12, li_15, li_16, li_20, li_21, li_24, li_25, li_26, li_32, li_33, li_38, li_40, li_41, li_42, li_43, li_45, li_47, li_48, li_57, li_58, li_59, li_60, li_61, li_62, li_63, li_74, li_75, li_84, li_91, li_93, li_98, li_100, li_103, li_105, li_107, li_109, li_110, li_111, li_112, li_115, li_118, li_119, li_120, li_121, li_124, li_140, li_180, li_206, li_240, li_255, li_420, li_520, li_999, li_1000, li_1771, li_8240, li_9999, li_88200, li_1000000, li_2097151, li_31, nI_add, pk_mul, zz_sub, zz_an, nI_clamp, zz_leT, zz_leF, zz_ltT, zz_ltF, zz_eqF, zz_eqT, zz_m1, zz_m2, zz_m3, zz_m4, zz_m5, zz_m6, zz_ck, zz_bl, zz_b3, zz_b2, zz_shl, zz_bt0, zz_bt1, pk_div, Nat.zero_add, Nat.add_zero, if_true, if_false, reduceIte, Nat.mul_zero, zz_or0, zz_inT, zz_inF, hmn, t0, cg]
          exact ih
        | b + 1, bp, ih =>
          obtain ⟨p1, p2⟩ := bp b rfl
          have p1' : g 1 b = s ∧ 0 < g 9 b := of_decide_eq_true p1
          have hb := h66 b (by omega) p1'.1 p1'.2
          have tb := tot_le hg s b 6
          rw [en_s]
          by_cases c3 : tot g s b 6 < tot g s i 6
          · rw [if_pos ⟨⟨c1, c2⟩, Or.inr c3⟩, en_s] at ih
            simp (disch := omega) only [fX11_champion_t_b19, fX11_champion_t_b19w, fX11_champion_t_b74, fX11_champion_t_b76, zz_lt, li_0, li_1, li_2, li_3, li_4, li_5, li_6, li_7, li_8, li_9, li_10, li_11, li_12, li_15, li_16, li_20, li_21, li_24, li_25, li_26, li_32, li_33, li_38, li_40, li_41, li_42, li_43, li_45, li_47, li_48, li_57, li_58, li_59, li_60, li_61, li_62, li_63, li_74, li_75, li_84, li_91, li_93, li_98, li_100, li_103, li_105, li_107, li_109, li_110, li_111, li_112, li_115, li_118, li_119, li_120, li_121, li_124, li_140, li_180, li_206, li_240, li_255, li_420, li_520, li_999, li_1000, li_1771, li_8240, li_9999, li_88200, li_1000000, li_2097151, li_31, nI_add, pk_mul, zz_sub, zz_an, nI_clamp, zz_leT, zz_leF, zz_ltT, zz_ltF, zz_eqF, zz_eqT, zz_m1, zz_m2, zz_m3, zz_m4, zz_m5, zz_m6, zz_ck, zz_bl, zz_b3, zz_b2, zz_shl, zz_bt0, zz_bt1, pk_div, Nat.zero_add, Nat.add_zero, if_true, if_false, reduceIte, Nat.mul_zero, zz_or0, zz_inT, zz_inF, hmn, t0, cg, hi, hb]
            exact ih
          · rw [if_neg (fun z => by
              rcases z.2 with z | z
              · omega
              · exact c3 z), en_s] at ih
            simp (disch := omega) only [fX11_champion_t_b19, fX11_champion_t_b19w, fX11_champion_t_b74, fX11_champion_t_b76, zz_lt, li_0, li_1, li_2, li_3, li_4, li_5, li_6, li_7, li_8, li_9, li_10, li_11, li_12, li_15, li_16, li_20, li_21, li_24, li_25, li_26, li_32, li_33, li_38, li_40, li_41, li_42, li_43, li_45, li_47, li_48, li_57, li_58, li_59, li_60, li_61, li_62, li_63, li_74, li_75, li_84, li_91, li_93, li_98, li_100, li_103, li_105, li_107, li_109, li_110, li_111, li_112, li_115, li_118, li_119, li_120, li_121, li_124, li_140, li_180, li_206, li_240, li_255, li_420, li_520, li_999, li_1000, li_1771, li_8240, li_9999, li_88200, li_1000000, li_2097151, li_31, nI_add, pk_mul, zz_sub, zz_an, nI_clamp, zz_leT, zz_leF, zz_ltT, zz_ltF, zz_eqF, zz_eqT, zz_m1, zz_m2, zz_m3, zz_m4, zz_m5, zz_m6, zz_ck, zz_bl, zz_b3, zz_b2, zz_shl, zz_bt0, zz_bt1, pk_div, Nat.zero_add, Nat.add_zero, if_true, if_false, reduceIte, Nat.mul_zero, zz_or0, zz_inT, zz_inF, hmn, t0, cg, hi, hb]
            exact ih
      · rw [if_neg c2] at cg
        rw [if_neg (fun z => c2 z.1.2)] at ih
        simp (disch := omega) only [fX11_champion_t_b19, fX11_champion_t_b19w, fX11_champion_t_b74, fX11_champion_t_b76, zz_lt, li_0, li_1, li_2, li_3, li_4, li_5, li_6, li_7, li_8, li_9, li_10, li_11, li_12, li_15, li_16, li_20, li_21, li_24, li_25, li_26, li_32, li_33, li_38, li_40, li_41, li_42, li_43, li_45, li_47, li_48, li_57, li_58, li_59, li_60, li_61, li_62, li_63, li_74, li_75, li_84, li_91, li_93, li_98, li_100, li_103, li_105, li_107, li_109, li_110, li_111, li_112, li_115, li_118, li_119, li_120, li_121, li_124, li_140, li_180, li_206, li_240, li_255, li_420, li_520, li_999, li_1000, li_1771, li_8240, li_9999, li_88200, li_1000000, li_2097151, li_31, nI_add, pk_mul, zz_sub, zz_an, nI_clamp, zz_leT, zz_leF, zz_ltT, zz_ltF, zz_eqF, zz_eqT, zz_m1, zz_m2, zz_m3, zz_m4, zz_m5, zz_m6, zz_ck, zz_bl, zz_b3, zz_b2, zz_shl, zz_bt0, zz_bt1, pk_div, Nat.zero_add, Nat.add_zero, if_true, if_false, reduceIte, Nat.mul_zero, zz_or0, zz_inT, zz_inF, hmn, t0, cg]
        exact ih
    · rw [if_neg (fun z => c1 z.1.1)] at ih
      simp (disch := omega) only [fX11_champion_t_b19, fX11_champion_t_b19w, fX11_champion_t_b74, fX11_champion_t_b76, zz_lt, li_0, li_1, li_2, li_3, li_4, li_5, li_6, li_7, li_8, li_9, li_10, li_11, li_12, li_15, li_16, li_20, li_21, li_24, li_25, li_26, li_32, li_33, li_38, li_40, li_41, li_42, li_43, li_45, li_47, li_48, li_57, li_58, li_59, li_60, li_61, li_62, li_63, li_74, li_75, li_84, li_91, li_93, li_98, li_100, li_103, li_105, li_107, li_109, li_110, li_111, li_112, li_115, li_118, li_119, li_120, li_121, li_124, li_140, li_180, li_206, li_240, li_255, li_420, li_520, li_999, li_1000, li_1771, li_8240, li_9999, li_88200, li_1000000, li_2097151, li_31, nI_add, pk_mul, zz_sub, zz_an, nI_clamp, zz_leT, zz_leF, zz_ltT, zz_ltF, zz_eqF, zz_eqT, zz_m1, zz_m2, zz_m3, zz_m4, zz_m5, zz_m6, zz_ck, zz_bl, zz_b3, zz_b2, zz_shl, zz_bt0, zz_bt1, pk_div, Nat.zero_add, Nat.add_zero, if_true, if_false, reduceIte, Nat.mul_zero, zz_or0, zz_inT, zz_inF, hmn, t0]
      exact ih
theorem pm_chL {g : Nat → Nat → Nat} (hg : GW g) (n d : Nat) (hn : 88200 < n) (hd : 150 < d) (L : am_L) {s : Nat} (hs : s < 2) (h0 : 0 < g 0 0) : ∀ (j i F : Nat) (I : am_I), i + j = g 0 0 → j < F → MS I g → ∃ I', fX12_champion_b7 n d F (nI s) (zn (am_best (fun m => decide (g 1 m = s ∧ 0 < g 9 m)) (fun m => tot g s m 6) i)) (g_mm (fun m => tot g s m 6) (am_best (fun m => decide (g 1 m = s ∧ 0 < g 9 m)) (fun m => tot g s m 6) i)) (nI i) I L = some (zn (am_best (fun m => decide (g 1 m = s ∧ 0 < g 9 m)) (fun m => tot g s m 6) (g 0 0)), I', L) ∧ am_ag scrM I I'
  | _, _, 0, _, _, f, _ => by omega
  | 0, i, F + 1, I, e, f, h => by
    have gm := hg.1
    have e1 : i = g 0 0 := by omega
    subst e1
    have hmn := h.1
    have is1 := pm_is1 hg h n d L hs h0
    exact ⟨I, by simp (disch := omega) only [fX12_champion_b7, fX12_champion_b7w, zz_lt, li_0, li_1, li_2, li_3, li_4, li_5, li_6, li_7, li_8, li_9, li_10, li_11, li_12, li_15, li_16, li_20, li_21, li_24, li_25, li_26, li_32, li_33, li_38, li_40, li_41, li_42, li_43, li_45, li_47, li_48, li_57, li_58, li_59, li_60, li_61, li_62, li_63, li_74, li_75, li_84, li_91, li_93, li_98, li_100, li_103, li_105, li_107, li_109, li_110, li_111, li_112, li_115, li_118, li_119, li_120, li_121, li_124, li_140, li_180, li_206, li_240, li_255, li_420, li_520, li_999, li_1000, li_1771, li_8240, li_9999, li_88200, li_1000000, li_2097151, li_31, nI_add, pk_mul, zz_sub, zz_an, nI_clamp, zz_leT, zz_leF, zz_ltT, zz_ltF, zz_eqF, zz_eqT, zz_m1, zz_m2, zz_m3, zz_m4, zz_m5, zz_m6, zz_ck, zz_bl, zz_b3, zz_b2, zz_shl, zz_bt0, zz_bt1, pk_div, Nat.zero_add, Nat.add_zero, if_true, if_false, reduceIte, Nat.mul_zero, zz_or0, zz_inT, zz_inF, is1, hmn], ag_rf⟩
  | j + 1, i, F + 1, I, e, f, h => by
    have gm := hg.1
    have hmn := h.1
    have i1 : i < g 0 0 := by omega
    have is1 := pm_is1 hg h n d L hs h0
    have sd := pm_side hg h n d L i1
    have b1 := hg.2.2.2.2.2.1 i i1
    have r0 := h.2.2.2.2.2.2.2.2.2.2.2.2.2.1 i i1
    have rr := hg.2.2.2.2.2.2.2.2.1 i i1
    have ti := tot_le hg s i 6
    have nx : am_best (fun m => decide (g 1 m = s ∧ 0 < g 9 m)) (fun m => tot g s m 6) (i + 1) = if (g 1 i = s ∧ 0 < g 9 i) ∧ (am_best (fun m => decide (g 1 m = s ∧ 0 < g 9 m)) (fun m => tot g s m 6) i = 0 ∨ tot g s (am_best (fun m => decide (g 1 m = s ∧ 0 < g 9 m)) (fun m => tot g s m 6) i - 1) 6 < tot g s i 6) then i + 1 else am_best (fun m => decide (g 1 m = s ∧ 0 < g 9 m)) (fun m => tot g s m 6) i := by
      show (if decide (g 1 i = s ∧ 0 < g 9 i) = true ∧ _ then _ else _) = _
      simp only [decide_eq_true_eq]
    have ih := fun J hJ => pm_chL hg n d hn hd L hs h0 j (i + 1) F J (by omega) (by omega) hJ
    have bl := best_le (fun m => decide (g 1 m = s ∧ 0 < g 9 m)) (fun m => tot g s m 6) i
    generalize am_best (fun m => decide (g 1 m = s ∧ 0 < g 9 m)) (fun m => tot g s m 6) i = B at nx bl
    rw [nx] at ih
    have mm0 : g_mm (fun m => tot g s m 6) 0 = -nI 1 := rfl
    have mms : ∀ k, g_mm (fun m => tot g s m 6) (k + 1) = nI (tot g s k 6) := fun k => rfl
    have nope : ¬ (g 1 i = s ∧ 0 < g 9 i) → ∃ I', fX12_champion_b7 n d (F + 1) (nI s) (zn B) (g_mm (fun m => tot g s m 6) B) (nI i) I L = some (zn (am_best (fun m => decide (g 1 m = s ∧ 0 < g 9 m)) (fun m => tot g s m 6) (g 0 0)), I', L) ∧ am_ag scrM I I' := fun hne => by
      obtain ⟨I', w1, w2⟩ := ih I h
      rw [if_neg (fun z => hne z.1)] at w1
      refine ⟨I', ?_, w2⟩
      rw [← w1]
      have b55 : ∀ (k : Nat) (b : Nat), b < 100 → k = 0 ∨ k = b + 1 → fX12_champion_b55 n d (fX12_champion_b7 n d F) (nI s) (zn k) (g_mm (fun m => tot g s m 6) k) (nI i) I L = fX12_champion_b7 n d F (nI s) (zn k) (g_mm (fun m => tot g s m 6) k) (nI (i + 1)) I L := fun k b hb hk => by
        rcases hk with hk | hk
        · subst hk
          rw [mm0]
          have mx := mm_max3 n d I L
          simp (disch := omega) only [fX12_champion_b55, fX12_champion_b56, fX12_champion_b70, zz_lt, li_0, li_1, li_2, li_3, li_4, li_5, li_6, li_7, li_8, li_9, li_10, li_11, li_12, li_15, li_16, li_20, li_21, li_24, li_25, li_26, li_32, li_33, li_38, li_40, li_41, li_42, li_43, li_45, li_47, li_48, li_57, li_58, li_59, li_60, li_61, li_62, li_63, li_74, li_75, li_84, li_91, li_93, li_98, li_100, li_103, li_105, li_107, li_109, li_110, li_111, li_112, li_115, li_118, li_119, li_120, li_121, li_124, li_140, li_180, li_206, li_240, li_255, li_420, li_520, li_999, li_1000, li_1771, li_8240, li_9999, li_88200, li_1000000, li_2097151, li_31, nI_add, pk_mul, zz_sub, zz_an, nI_clamp, zz_leT, zz_leF, zz_ltT, zz_ltF, zz_eqF, zz_eqT, zz_m1, zz_m2, zz_m3, zz_m4, zz_m5, zz_m6, zz_ck, zz_bl, zz_b3, zz_b2, zz_shl, zz_bt0, zz_bt1, pk_div, Nat.zero_add, Nat.add_zero, if_true, if_false, reduceIte, Nat.mul_zero, zz_or0, zz_inT, zz_inF, m1_le, mx]
        · subst hk
          rw [mms]
          have tb := tot_le hg s b 6
          have mx := mm_max2 n d (tot g s b 6) I L (by omega)
          simp (disch := omega) only [fX12_champion_b55, fX12_champion_b56, fX12_champion_b70, zz_lt, li_0, li_1, li_2, li_3, li_4, li_5, li_6, li_7, li_8, li_9, li_10, li_11, li_12, li_15, li_16, li_20, li_21, li_24, li_25, li_26, li_32, li_33, li_38, li_40, li_41, li_42, li_43, li_45, li_47, li_48, li_57, li_58, li_59, li_60, li_61, li_62, li_63, li_74, li_75, li_84, li_91, li_93, li_98, li_100, li_103, li_105, li_107, li_109, li_110, li_111, li_112, li_115, li_118, li_119, li_120, li_121, li_124, li_140, li_180, li_206, li_240, li_255, li_420, li_520, li_999, li_1000, li_1771, li_8240, li_9999, li_88200, li_1000000, li_2097151, li_31, nI_add, pk_mul, zz_sub, zz_an, nI_clamp, zz_leT, zz_leF, zz_ltT, zz_ltF, zz_eqF, zz_eqT, zz_m1, zz_m2, zz_m3, zz_m4, zz_m5, zz_m6, zz_ck, zz_bl, zz_b3, zz_b2, zz_shl, zz_bt0, zz_bt1, pk_div, Nat.zero_add, Nat.add_zero, if_true, if_false, reduceIte, Nat.mul_zero, zz_or0, zz_inT, zz_inF, mx]
      have b5 := b55 B (B - 1) (by omega) (by omega)
      by_cases c1 : g 1 i = s
      · have c2 : ¬ 0 < g 9 i := fun z => hne ⟨c1, z⟩
        simp (disch := omega) only [fX12_champion_b7, fX12_champion_b7w, zz_lt, li_0, li_1, li_2, li_3, li_4, li_5, li_6, li_7, li_8, li_9, li_10, li_11, li_12, li_15, li_16, li_20, li_21, li_24, li_25, li_26, li_32, li_33, li_38, li_40, li_41, li_42, li_43, li_45, li_47, li_48, li_57, li_58, li_59, li_60, li_61, li_62, li_63, li_74, li_75, li_84, li_91, li_93, li_98, li_100, li_103, li_105, li_107, li_109, li_110, li_111, li_112, li_115, li_118, li_119, li_120, li_121, li_124, li_140, li_180, li_206, li_240, li_255, li_420, li_520, li_999, li_1000, li_1771, li_8240, li_9999, li_88200, li_1000000, li_2097151, li_31, nI_add, pk_mul, zz_sub, zz_an, nI_clamp, zz_leT, zz_leF, zz_ltT, zz_ltF, zz_eqF, zz_eqT, zz_m1, zz_m2, zz_m3, zz_m4, zz_m5, zz_m6, zz_ck, zz_bl, zz_b3, zz_b2, zz_shl, zz_bt0, zz_bt1, pk_div, Nat.zero_add, Nat.add_zero, if_true, if_false, reduceIte, Nat.mul_zero, zz_or0, zz_inT, zz_inF, is1, hmn, sd, r0, b5]
      · simp (disch := omega) only [fX12_champion_b7, fX12_champion_b7w, zz_lt, li_0, li_1, li_2, li_3, li_4, li_5, li_6, li_7, li_8, li_9, li_10, li_11, li_12, li_15, li_16, li_20, li_21, li_24, li_25, li_26, li_32, li_33, li_38, li_40, li_41, li_42, li_43, li_45, li_47, li_48, li_57, li_58, li_59, li_60, li_61, li_62, li_63, li_74, li_75, li_84, li_91, li_93, li_98, li_100, li_103, li_105, li_107, li_109, li_110, li_111, li_112, li_115, li_118, li_119, li_120, li_121, li_124, li_140, li_180, li_206, li_240, li_255, li_420, li_520, li_999, li_1000, li_1771, li_8240, li_9999, li_88200, li_1000000, li_2097151, li_31, nI_add, pk_mul, zz_sub, zz_an, nI_clamp, zz_leT, zz_leF, zz_ltT, zz_ltF, zz_eqF, zz_eqT, zz_m1, zz_m2, zz_m3, zz_m4, zz_m5, zz_m6, zz_ck, zz_bl, zz_b3, zz_b2, zz_shl, zz_bt0, zz_bt1, pk_div, Nat.zero_add, Nat.add_zero, if_true, if_false, reduceIte, Nat.mul_zero, zz_or0, zz_inT, zz_inF, is1, hmn, sd, b5]
    by_cases c1 : g 1 i = s
    · by_cases c2 : 0 < g 9 i
      · obtain ⟨I1, w1, w2⟩ := pm_wins hg n d hn hd h L i1 c2
        rw [c1] at w1
        obtain ⟨I2, v1, v2⟩ := ih I1 (MS_keep h w2)
        refine ⟨I2, ?_, ag_tr w2 v2⟩
        match B, v1, bl with
        | 0, v1, _ =>
          rw [if_pos ⟨⟨c1, c2⟩, Or.inl rfl⟩, en_s, mms] at v1
          rw [en_0, mm0, ← v1]
          have mx := mm_max n d (tot g s i 6) I1 L (by omega)
          simp (disch := omega) only [fX12_champion_b7, fX12_champion_b7w, fX12_champion_b56, fX12_champion_b70, zz_lt, li_0, li_1, li_2, li_3, li_4, li_5, li_6, li_7, li_8, li_9, li_10, li_11, li_12, li_15, li_16, li_20, li_21, li_24, li_25, li_26, li_32, li_33, li_38, li_40, li_41, li_42, li_43, li_45, li_47, li_48, li_57, li_58, li_59, li_60, li_61, li_62, li_63, li_74, li_75, li_84, li_91, li_93, li_98, li_100, li_103, li_105, li_107, li_109, li_110, li_111, li_112, li_115, li_118, li_119, li_120, li_121, li_124, li_140, li_180, li_206, li_240, li_255, li_420, li_520, li_999, li_1000, li_1771, li_8240, li_9999, li_88200, li_1000000, li_2097151, li_31, nI_add, pk_mul, zz_sub, zz_an, nI_clamp, zz_leT, zz_leF, zz_ltT, zz_ltF, zz_eqF, zz_eqT, zz_m1, zz_m2, zz_m3, zz_m4, zz_m5, zz_m6, zz_ck, zz_bl, zz_b3, zz_b2, zz_shl, zz_bt0, zz_bt1, pk_div, Nat.zero_add, Nat.add_zero, if_true, if_false, reduceIte, Nat.mul_zero, zz_or0, zz_inT, zz_inF, is1, hmn, sd, r0, w1, mx]
        | b + 1, v1, bl =>
          have tb := tot_le hg s b 6
          have mx := J_max n d (tot g s b 6) (tot g s i 6) I1 L (by omega) (by omega)
          rw [en_s, mms, ← v1]
          by_cases c3 : tot g s b 6 < tot g s i 6
          · rw [Nat.max_eq_right (by omega)] at mx
            rw [if_pos ⟨⟨c1, c2⟩, Or.inr c3⟩, en_s, mms]
            simp (disch := omega) only [fX12_champion_b7, fX12_champion_b7w, fX12_champion_b56, fX12_champion_b70, zz_lt, li_0, li_1, li_2, li_3, li_4, li_5, li_6, li_7, li_8, li_9, li_10, li_11, li_12, li_15, li_16, li_20, li_21, li_24, li_25, li_26, li_32, li_33, li_38, li_40, li_41, li_42, li_43, li_45, li_47, li_48, li_57, li_58, li_59, li_60, li_61, li_62, li_63, li_74, li_75, li_84, li_91, li_93, li_98, li_100, li_103, li_105, li_107, li_109, li_110, li_111, li_112, li_115, li_118, li_119, li_120, li_121, li_124, li_140, li_180, li_206, li_240, li_255, li_420, li_520, li_999, li_1000, li_1771, li_8240, li_9999, li_88200, li_1000000, li_2097151, li_31, nI_add, pk_mul, zz_sub, zz_an, nI_clamp, zz_leT, zz_leF, zz_ltT, zz_ltF, zz_eqF, zz_eqT, zz_m1, zz_m2, zz_m3, zz_m4, zz_m5, zz_m6, zz_ck, zz_bl, zz_b3, zz_b2, zz_shl, zz_bt0, zz_bt1, pk_div, Nat.zero_add, Nat.add_zero, if_true, if_false, reduceIte, Nat.mul_zero, zz_or0, zz_inT, zz_inF, is1, hmn, sd, r0, w1, mx]
          · rw [Nat.max_eq_left (by omega)] at mx
            rw [if_neg (fun z => by
              rcases z.2 with z | z
              · omega
              · exact c3 z), en_s, mms]
            simp (disch := omega) only [fX12_champion_b7, fX12_champion_b7w, fX12_champion_b56, fX12_champion_b70, zz_lt, li_0, li_1, li_2, li_3, li_4, li_5, li_6, li_7, li_8, li_9, li_10, li_11, li_12, li_15, li_16, li_20, li_21, li_24, li_25, li_26, li_32, li_33, li_38, li_40, li_41, li_42, li_43, li_45, li_47, li_48, li_57, li_58, li_59, li_60, li_61, li_62, li_63, li_74, li_75, li_84, li_91, li_93, li_98, li_100, li_103, li_105, li_107, li_109, li_110, li_111, li_112, li_115, li_118, li_119, li_120, li_121, li_124, li_140, li_180, li_206, li_240, li_255, li_420, li_520, li_999, li_1000, li_1771, li_8240, li_9999, li_88200, li_1000000, li_2097151, li_31, nI_add, pk_mul, zz_sub, zz_an, nI_clamp, zz_leT, zz_leF, zz_ltT, zz_ltF, zz_eqF, zz_eqT, zz_m1, zz_m2, zz_m3, zz_m4, zz_m5, zz_m6, zz_ck, zz_bl, zz_b3, zz_b2, zz_shl, zz_bt0, zz_bt1, pk_div, Nat.zero_add, Nat.add_zero, if_true, if_false, reduceIte, Nat.mul_zero, zz_or0, zz_inT, zz_inF, is1, hmn, sd, r0, w1, mx]
      · exact nope (fun z => c2 z.2)
    · exact nope (fun z => c1 z.1)
theorem opn_champion {g : Nat → Nat → Nat} {IC IM : am_I} (n d : Nat) (hn : 88200 < n) (hd : 150 < d) (hg : GW g) (hc : CS IC g) (h : MS IM g) (hR : g 0 0 = 0 ∨ rDu IC g) (LC LM : am_L) (e : Int32) : am_du (fX11_champion_t n d e IC LC) (fX12_champion n d e IM LM) IC LC IM LM g := by
  have gm := hg.1
  rcases side_of (g := g) e with he | ⟨s, hs, rfl, h0⟩
  · refine ⟨-nI 1, IC, IM, by simp (disch := omega) only [fX11_champion_t, pc_is0 hg hc n d LC he, zz_lt, li_0, li_1, li_2, li_3, li_4, li_5, li_6, li_7, li_8, li_9, li_10, li_11, li_12, li_15, li_16, li_20, li_21, li_24, li_25, li_26, li_32, li_33, li_38, li_40, li_41, li_42, li_43, li_45, li_47, li_48, li_57, li_58, li_59, li_60, li_61, li_62, li_63, li_74, li_75, li_84, li_91, li_93, li_98, li_100, li_103, li_105, li_107, li_109, li_110, li_111, li_112, li_115, li_118, li_119, li_120, li_121, li_124, li_140, li_180, li_206, li_240, li_255, li_420, li_520, li_999, li_1000, li_1771, li_8240, li_9999, li_88200, li_1000000, li_2097151, li_31, nI_add, pk_mul, zz_sub, zz_an, nI_clamp, zz_leT, zz_leF, zz_ltT, zz_ltF, zz_eqF, zz_eqT, zz_m1, zz_m2, zz_m3, zz_m4, zz_m5, zz_m6, zz_ck, zz_bl, zz_b3, zz_b2, zz_shl, zz_bt0, zz_bt1, pk_div, Nat.zero_add, Nat.add_zero, if_true, if_false, reduceIte, Nat.mul_zero, zz_or0, zz_inT, zz_inF], ?_, ag_rf, ag_rf, hR⟩
    obtain ⟨n', rfl⟩ : ∃ n', n = n' + 1 := ⟨n - 1, by omega⟩
    simp (disch := omega) only [fX12_champion, fX12_champion_b7, fX12_champion_b7w, pm_is0 hg h _ d LM he, zz_lt, li_0, li_1, li_2, li_3, li_4, li_5, li_6, li_7, li_8, li_9, li_10, li_11, li_12, li_15, li_16, li_20, li_21, li_24, li_25, li_26, li_32, li_33, li_38, li_40, li_41, li_42, li_43, li_45, li_47, li_48, li_57, li_58, li_59, li_60, li_61, li_62, li_63, li_74, li_75, li_84, li_91, li_93, li_98, li_100, li_103, li_105, li_107, li_109, li_110, li_111, li_112, li_115, li_118, li_119, li_120, li_121, li_124, li_140, li_180, li_206, li_240, li_255, li_420, li_520, li_999, li_1000, li_1771, li_8240, li_9999, li_88200, li_1000000, li_2097151, li_31, nI_add, pk_mul, zz_sub, zz_an, nI_clamp, zz_leT, zz_leF, zz_ltT, zz_ltF, zz_eqF, zz_eqT, zz_m1, zz_m2, zz_m3, zz_m4, zz_m5, zz_m6, zz_ck, zz_bl, zz_b3, zz_b2, zz_shl, zz_bt0, zz_bt1, pk_div, Nat.zero_add, Nat.add_zero, if_true, if_false, reduceIte, Nat.mul_zero, zz_or0, zz_inT, zz_inF]
  · have hR' : rDu IC g := hR.resolve_left (by omega)
    obtain ⟨I1, w1, w2, w3, w4⟩ := pc_count hg n d (by omega) hc hR' LC hs
    have a := pc_chL hg n d (CS_Dq hc w3) LC hs w4 (g 0 0) 0 n (by omega) (by omega)
    obtain ⟨J1, v1, v2⟩ := pm_chL hg n d hn hd LM hs h0 (g 0 0) 0 n IM (by omega) (by omega) h
    have z1 : zn (am_best (fun m => decide (g 1 m = s ∧ 0 < g 9 m)) (fun m => tot g s m 6) 0) = -nI 1 := rfl
    have z2 : g_mm (fun m => tot g s m 6) (am_best (fun m => decide (g 1 m = s ∧ 0 < g 9 m)) (fun m => tot g s m 6) 0) = -nI 1 := rfl
    rw [z1] at a
    rw [z1, z2] at v1
    refine ⟨zn (am_best (fun m => decide (g 1 m = s ∧ 0 < g 9 m)) (fun m => tot g s m 6) (g 0 0)), I1, J1, ?_, ?_, w3, v2, Or.inr w2⟩
    · rw [← a]
      simp (disch := omega) only [fX11_champion_t, fX11_champion_t_b15, pc_is1 hg hc n d LC hs h0, zz_lt, li_0, li_1, li_2, li_3, li_4, li_5, li_6, li_7, li_8, li_9, li_10, li_11, li_12, li_15, li_16, li_20, li_21, li_24, li_25, li_26, li_32, li_33, li_38, li_40, li_41, li_42, li_43, li_45, li_47, li_48, li_57, li_58, li_59, li_60, li_61, li_62, li_63, li_74, li_75, li_84, li_91, li_93, li_98, li_100, li_103, li_105, li_107, li_109, li_110, li_111, li_112, li_115, li_118, li_119, li_120, li_121, li_124, li_140, li_180, li_206, li_240, li_255, li_420, li_520, li_999, li_1000, li_1771, li_8240, li_9999, li_88200, li_1000000, li_2097151, li_31, nI_add, pk_mul, zz_sub, zz_an, nI_clamp, zz_leT, zz_leF, zz_ltT, zz_ltF, zz_eqF, zz_eqT, zz_m1, zz_m2, zz_m3, zz_m4, zz_m5, zz_m6, zz_ck, zz_bl, zz_b3, zz_b2, zz_shl, zz_bt0, zz_bt1, pk_div, Nat.zero_add, Nat.add_zero, if_true, if_false, reduceIte, Nat.mul_zero, zz_or0, zz_inT, zz_inF, w1]
    · rw [← v1]
      simp (disch := omega) only [fX12_champion, zz_lt, li_0, li_1, li_2, li_3, li_4, li_5, li_6, li_7, li_8, li_9, li_10, li_11, li_12, li_15, li_16, li_20, li_21, li_24, li_25, li_26, li_32, li_33, li_38, li_40, li_41, li_42, li_43, li_45, li_47, li_48, li_57, li_58, li_59, li_60, li_61, li_62, li_63, li_74, li_75, li_84, li_91, li_93, li_98, li_100, li_103, li_105, li_107, li_109, li_110, li_111, li_112, li_115, li_118, li_119, li_120, li_121, li_124, li_140, li_180, li_206, li_240, li_255, li_420, li_520, li_999, li_1000, li_1771, li_8240, li_9999, li_88200, li_1000000, li_2097151, li_31, nI_add, pk_mul, zz_sub, zz_an, nI_clamp, zz_leT, zz_leF, zz_ltT, zz_ltF, zz_eqF, zz_eqT, zz_m1, zz_m2, zz_m3, zz_m4, zz_m5, zz_m6, zz_ck, zz_bl, zz_b3, zz_b2, zz_shl, zz_bt0, zz_bt1, pk_div, Nat.zero_add, Nat.add_zero, if_true, if_false, reduceIte, Nat.mul_zero, zz_or0, zz_inT, zz_inF]
def foe (g : Nat → Nat → Nat) (s i : Nat) : Nat := sm (fun m => if g 1 m ≠ s ∧ 0 < g 9 m then 1 else 0) i
theorem foe_le (g : Nat → Nat → Nat) (s i : Nat) : foe g s i ≤ i := sm_1 _ i (fun k _ => by show (if _ then 1 else 0) ≤ 1; split <;> omega)
theorem foe_s (g : Nat → Nat → Nat) (s i : Nat) : foe g s (i + 1) = foe g s i + (if g 1 i ≠ s ∧ 0 < g 9 i then 1 else 0) := rfl
theorem pm_foeL {g : Nat → Nat → Nat} (hg : GW g) (n d : Nat) {I : am_I} (h : MS I g) (L : am_L) {s : Nat} (hs : s < 2) : ∀ (j i F : Nat), i + j = g 0 0 → j < F → fX12_foes_b4 n d F (nI s) (nI (foe g s i)) (nI i) I L = some (nI (foe g s (g 0 0)), I, L)
  | _, _, 0, _, f => by omega
  | 0, i, F + 1, e, f => by
    have gm := hg.1
    have e1 : i = g 0 0 := by omega
    subst e1
    have hmn := h.1
    simp (disch := omega) only [fX12_foes_b4, fX12_foes_b4w, zz_lt, li_0, li_1, li_2, li_3, li_4, li_5, li_6, li_7, li_8, li_9, li_10, li_11, li_12, li_15, li_16, li_20, li_21, li_24, li_25, li_26, li_32, li_33, li_38, li_40, li_41, li_42, li_43, li_45, li_47, li_48, li_57, li_58, li_59, li_60, li_61, li_62, li_63, li_74, li_75, li_84, li_91, li_93, li_98, li_100, li_103, li_105, li_107, li_109, li_110, li_111, li_112, li_115, li_118, li_119, li_120, li_121, li_124, li_140, li_180, li_206, li_240, li_255, li_420, li_520, li_999, li_1000, li_1771, li_8240, li_9999, li_88200, li_1000000, li_2097151, li_31, nI_add, pk_mul, zz_sub, zz_an, nI_clamp, zz_leT, zz_leF, zz_ltT, zz_ltF, zz_eqF, zz_eqT, zz_m1, zz_m2, zz_m3, zz_m4, zz_m5, zz_m6, zz_ck, zz_bl, zz_b3, zz_b2, zz_shl, zz_bt0, zz_bt1, pk_div, Nat.zero_add, Nat.add_zero, if_true, if_false, reduceIte, Nat.mul_zero, zz_or0, zz_inT, zz_inF, hmn]
  | j + 1, i, F + 1, e, f => by
    have gm := hg.1
    have hmn := h.1
    have i1 : i < g 0 0 := by omega
    have sd := pm_side hg h n d L i1
    have b1 := hg.2.2.2.2.2.1 i i1
    have r0 := h.2.2.2.2.2.2.2.2.2.2.2.2.2.1 i i1
    have rr := hg.2.2.2.2.2.2.2.2.1 i i1
    have fl := foe_le g s i
    have ih := pm_foeL hg n d h L hs j (i + 1) F (by omega) (by omega)
    rw [foe_s] at ih
    by_cases c1 : g 1 i = s
    · rw [if_neg (fun z => z.1 c1)] at ih
      simp (disch := omega) only [fX12_foes_b4, fX12_foes_b4w, fX12_foes_b37, fX12_foes_b38, zz_lt, li_0, li_1, li_2, li_3, li_4, li_5, li_6, li_7, li_8, li_9, li_10, li_11, li_12, li_15, li_16, li_20, li_21, li_24, li_25, li_26, li_32, li_33, li_38, li_40, li_41, li_42, li_43, li_45, li_47, li_48, li_57, li_58, li_59, li_60, li_61, li_62, li_63, li_74, li_75, li_84, li_91, li_93, li_98, li_100, li_103, li_105, li_107, li_109, li_110, li_111, li_112, li_115, li_118, li_119, li_120, li_121, li_124, li_140, li_180, li_206, li_240, li_255, li_420, li_520, li_999, li_1000, li_1771, li_8240, li_9999, li_88200, li_1000000, li_2097151, li_31, nI_add, pk_mul, zz_sub, zz_an, nI_clamp, zz_leT, zz_leF, zz_ltT, zz_ltF, zz_eqF, zz_eqT, zz_m1, zz_m2, zz_m3, zz_m4, zz_m5, zz_m6, zz_ck, zz_bl, zz_b3, zz_b2, zz_shl, zz_bt0, zz_bt1, pk_div, Nat.zero_add, Nat.add_zero, if_true, if_false, reduceIte, Nat.mul_zero, zz_or0, zz_inT, zz_inF, hmn, sd]
      exact ih
    · by_cases c2 : 0 < g 9 i
      · rw [if_pos ⟨c1, c2⟩] at ih
        simp (disch := omega) only [fX12_foes_b4, fX12_foes_b4w, fX12_foes_b37, fX12_foes_b38, zz_lt, li_0, li_1, li_2, li_3, li_4, li_5, li_6, li_7, li_8, li_9, li_10, li_11, li_12, li_15, li_16, li_20, li_21, li_24, li_25, li_26, li_32, li_33, li_38, li_40, li_41, li_42, li_43, li_45, li_47, li_48, li_57, li_58, li_59, li_60, li_61, li_62, li_63, li_74, li_75, li_84, li_91, li_93, li_98, li_100, li_103, li_105, li_107, li_109, li_110, li_111, li_112, li_115, li_118, li_119, li_120, li_121, li_124, li_140, li_180, li_206, li_240, li_255, li_420, li_520, li_999, li_1000, li_1771, li_8240, li_9999, li_88200, li_1000000, li_2097151, li_31, nI_add, pk_mul, zz_sub, zz_an, nI_clamp, zz_leT, zz_leF, zz_ltT, zz_ltF, zz_eqF, zz_eqT, zz_m1, zz_m2, zz_m3, zz_m4, zz_m5, zz_m6, zz_ck, zz_bl, zz_b3, zz_b2, zz_shl, zz_bt0, zz_bt1, pk_div, Nat.zero_add, Nat.add_zero, if_true, if_false, reduceIte, Nat.mul_zero, zz_or0, zz_inT, zz_inF, hmn, sd, r0]
        exact ih
      · rw [if_neg (fun z => c2 z.2)] at ih
        simp (disch := omega) only [fX12_foes_b4, fX12_foes_b4w, fX12_foes_b37, fX12_foes_b38, zz_lt, li_0, li_1, li_2, li_3, li_4, li_5, li_6, li_7, li_8, li_9, li_10, li_11, li_12, li_15, li_16, li_20, li_21, li_24, li_25, li_26, li_32, li_33, li_38, li_40, li_41, li_42, li_43, li_45, li_47, li_48, li_57, li_58, li_59, li_60, li_61, li_62, li_63, li_74, li_75, li_84, li_91, li_93, li_98, li_100, li_103, li_105, li_107, li_109, li_110, li_111, li_112, li_115, li_118, li_119, li_120, li_121, li_124, li_140, li_180, li_206, li_240, li_255, li_420, li_520, li_999, li_1000, li_1771, li_8240, li_9999, li_88200, li_1000000, li_2097151, li_31, nI_add, pk_mul, zz_sub, zz_an, nI_clamp, zz_leT, zz_leF, zz_ltT, zz_ltF, zz_eqF, zz_eqT, zz_m1, zz_m2, zz_m3, zz_m4, zz_m5, zz_m6, zz_ck, zz_bl, zz_b3, zz_b2, zz_shl, zz_bt0, zz_bt1, pk_div, Nat.zero_add, Nat.add_zero, if_true, if_false, reduceIte, Nat.mul_zero, zz_or0, zz_inT, zz_inF, hmn, sd, r0]
        exact ih
def vcs (g : Nat → Nat → Nat) (s : Nat) : Nat → Bool := fun m => decide ((g 1 m = s ∧ 0 < g 9 m) ∧ 0 < foe g s (g 0 0) ∧ tot g s m 6 = foe g s (g 0 0))
theorem vcs_s (g : Nat → Nat → Nat) (s i : Nat) : am_bits (vcs g s) (i + 1) = am_bits (vcs g s) i ||| (if vcs g s i = true then nI (2 ^ i) else nI 0) := rfl
theorem pc_v73 {g : Nat → Nat → Nat} (hg : GW g) (n d : Nat) {I : am_I} (h : CS I g) (L : am_L) {s : Nat} (hs : s < 2) (h66 : ∀ m, m < g 0 0 → g 1 m = s → 0 < g 9 m → I 66 m = nI (tot g s m 6)) : ∀ (j i F : Nat), i + j = g 0 0 → j < F → fX11_victors_t_b73 n d F (nI s) (nI (foe g s (g 0 0))) (am_bits (vcs g s) i) (nI i) I L = some (am_bits (vcs g s) (g 0 0), I, L)
  | _, _, 0, _, f => by omega
  | 0, i, F + 1, e, f => by
    have gm := hg.1
    have e1 : i = g 0 0 := by omega
    subst e1
    have hmn := h.1
    simp (disch := omega) only [fX11_victors_t_b73, fX11_victors_t_b73w, zz_lt, li_0, li_1, li_2, li_3, li_4, li_5, li_6, li_7, li_8, li_9, li_10, li_11, li_12, li_15, li_16, li_20, li_21, li_24, li_25, li_26, li_32, li_33, li_38, li_40, li_41, li_42, li_43, li_45, li_47, li_48, li_57, li_58, li_59, li_60, li_61, li_62, li_63, li_74, li_75, li_84, li_91, li_93, li_98, li_100, li_103, li_105, li_107, li_109, li_110, li_111, li_112, li_115, li_118, li_119, li_120, li_121, li_124, li_140, li_180, li_206, li_240, li_255, li_420, li_520, li_999, li_1000, li_1771, li_8240, li_9999, li_88200, li_1000000, li_2097151, li_31, nI_add, pk_mul, zz_sub, zz_an, nI_clamp, zz_leT, zz_leF, zz_ltT, zz_ltF, zz_eqF, zz_eqT, zz_m1, zz_m2, zz_m3, zz_m4, zz_m5, zz_m6, zz_ck, zz_bl, zz_b3, zz_b2, zz_shl, zz_bt0, zz_bt1, pk_div, Nat.zero_add, Nat.add_zero, if_true, if_false, reduceIte, Nat.mul_zero, zz_or0, zz_inT, zz_inF, hmn]
  | j + 1, i, F + 1, e, f => by
    have gm := hg.1
    have hmn := h.1
    have i1 : i < g 0 0 := by omega
    have t0 := h.2.2.2.2.2.1 i i1
    have b1 := hg.2.2.2.2.2.1 i i1
    have cg := pc_canGo hg h n d L i1
    have ti := tot_le hg s i 6
    have fl := foe_le g s (g 0 0)
    have ih := pc_v73 hg n d h L hs h66 j (i + 1) F (by omega) (by omega)
    rw [vcs_s] at ih
    by_cases c1 : g 1 i = s
    · by_cases c2 : 0 < g 9 i
      · rw [if_pos c2] at cg
        have hi := h66 i i1 c1 c2
        by_cases c3 : 0 < foe g s (g 0 0)
        · by_cases c4 : tot g s i 6 = foe g s (g 0 0)
          · rw [if_pos (show vcs g s i = true from decide_eq_true ⟨⟨c1, c2⟩, c3, c4⟩)] at ih
            rw [c4] at hi
            simp (disch := omega) only [fX11_victors_t_b73, fX11_victors_t_b73w, fX11_victors_t_b133, zz_lt, li_0, li_1, li_2, li_3, li_4, li_5, li_6, li_7, li_8, li_9, li_10, li_11, li_12, li_15, li_16, li_20, li_21, li_24, li_25, li_26, li_32, li_33, li_38, li_40, li_41, li_42, li_43, li_45, li_47, li_48, li_57, li_58, li_59, li_60, li_61, li_62, li_63, li_74, li_75, li_84, li_91, li_93, li_98, li_100, li_103, li_105, li_107, li_109, li_110, li_111, li_112, li_115, li_118, li_119, li_120, li_121, li_124, li_140, li_180, li_206, li_240, li_255, li_420, li_520, li_999, li_1000, li_1771, li_8240, li_9999, li_88200, li_1000000, li_2097151, li_31, nI_add, pk_mul, zz_sub, zz_an, nI_clamp, zz_leT, zz_leF, zz_ltT, zz_ltF, zz_eqF, zz_eqT, zz_m1, zz_m2, zz_m3, zz_m4, zz_m5, zz_m6, zz_ck, zz_bl, zz_b3, zz_b2, zz_shl, zz_bt0, zz_bt1, pk_div, Nat.zero_add, Nat.add_zero, if_true, if_false, reduceIte, Nat.mul_zero, zz_or0, zz_inT, zz_inF, hmn, t0, cg, hi]
            exact ih
          · rw [if_neg (fun z => c4 (of_decide_eq_true z).2.2), zz_or0] at ih
            simp (disch := omega) only [fX11_victors_t_b73, fX11_victors_t_b73w, fX11_victors_t_b133, zz_lt, li_0, li_1, li_2, li_3, li_4, li_5, li_6, li_7, li_8, li_9, li_10, li_11, li_12, li_15, li_16, li_20, li_21, li_24, li_25, li_26, li_32, li_33, li_38, li_40, li_41, li_42, li_43, li_45, li_47, li_48, li_57, li_58, li_59, li_60, li_61, li_62, li_63, li_74, li_75, li_84, li_91, li_93, li_98, li_100, li_103, li_105, li_107, li_109, li_110, li_111, li_112, li_115, li_118, li_119, li_120, li_121, li_124, li_140, li_180, li_206, li_240, li_255, li_420, li_520, li_999, li_1000, li_1771, li_8240, li_9999, li_88200, li_1000000, li_2097151, li_31, nI_add, pk_mul, zz_sub, zz_an, nI_clamp, zz_leT, zz_leF, zz_ltT, zz_ltF, zz_eqF, zz_eqT, zz_m1, zz_m2, zz_m3, zz_m4, zz_m5, zz_m6, zz_ck, zz_bl, zz_b3, zz_b2, zz_shl, zz_bt0, zz_bt1, pk_div, Nat.zero_add, Nat.add_zero, if_true, if_false, reduceIte, Nat.mul_zero, zz_or0, zz_inT, zz_inF, hmn, t0, cg, hi]
            exact ih
        · rw [if_neg (fun z => c3 (of_decide_eq_true z).2.1), zz_or0] at ih
          simp (disch := omega) only [fX11_victors_t_b73, fX11_victors_t_b73w, fX11_victors_t_b133, zz_lt, li_0, li_1, li_2, li_3, li_4, li_5, li_6, li_7, li_8, li_9, li_10, li_11, li_12, li_15, li_16, li_20, li_21, li_24, li_25, li_26, li_32, li_33, li_38, li_40, li_41, li_42, li_43, li_45, li_47, li_48, li_57, li_58, li_59, li_60, li_61, li_62, li_63, li_74, li_75, li_84, li_91, li_93, li_98, li_100, li_103, li_105, li_107, li_109, li_110, li_111, li_112, li_115, li_118, li_119, li_120, li_121, li_124, li_140, li_180, li_206, li_240, li_255, li_420, li_520, li_999, li_1000, li_1771, li_8240, li_9999, li_88200, li_1000000, li_2097151, li_31, nI_add, pk_mul, zz_sub, zz_an, nI_clamp, zz_leT, zz_leF, zz_ltT, zz_ltF, zz_eqF, zz_eqT, zz_m1, zz_m2, zz_m3, zz_m4, zz_m5, zz_m6, zz_ck, zz_bl, zz_b3, zz_b2, zz_shl, zz_bt0, zz_bt1, pk_div, Nat.zero_add, Nat.add_zero, if_true, if_false, reduceIte, Nat.mul_zero, zz_or0, zz_inT, zz_inF, hmn, t0, cg]
          exact ih
      · rw [if_neg c2] at cg
        rw [if_neg (fun z => c2 (of_decide_eq_true z).1.2), zz_or0] at ih
        simp (disch := omega) only [fX11_victors_t_b73, fX11_victors_t_b73w, fX11_victors_t_b133, zz_lt, li_0, li_1, li_2, li_3, li_4, li_5, li_6, li_7, li_8, li_9, li_10, li_11, li_12, li_15, li_16, li_20, li_21, li_24, li_25, li_26, li_32, li_33, li_38, li_40, li_41, li_42, li_43, li_45, li_47, li_48, li_57, li_58, li_59, li_60, li_61, li_62, li_63, li_74, li_75, li_84, li_91, li_93, li_98, li_100, li_103, li_105, li_107, li_109, li_110, li_111, li_112, li_115, li_118, li_119, li_120, li_121, li_124, li_140, li_180, li_206, li_240, li_255, li_420, li_520, li_999, li_1000, li_1771, li_8240, li_9999, li_88200, li_1000000, li_2097151, li_31, nI_add, pk_mul, zz_sub, zz_an, nI_clamp, zz_leT, zz_leF, zz_ltT, zz_ltF, zz_eqF, zz_eqT, zz_m1, zz_m2, zz_m3, zz_m4, zz_m5, zz_m6, zz_ck, zz_bl, zz_b3, zz_b2, zz_shl, zz_bt0, zz_bt1, pk_div, Nat.zero_add, Nat.add_zero, if_true, if_false, reduceIte, Nat.mul_zero, zz_or0, zz_inT, zz_inF, hmn, t0, cg]
        exact ih
    · rw [if_neg (fun z => c1 (of_decide_eq_true z).1.1), zz_or0] at ih
      simp (disch := omega) only [fX11_victors_t_b73, fX11_victors_t_b73w, fX11_victors_t_b133, zz_lt, li_0, li_1, li_2, li_3, li_4, li_5, li_6, li_7, li_8, li_9, li_10, li_11, li_12, li_15, li_16, li_20, li_21, li_24, li_25, li_26, li_32, li_33, li_38, li_40, li_41, li_42, li_43, li_45, li_47, li_48, li_57, li_58, li_59, li_60, li_61, li_62, li_63, li_74, li_75, li_84, li_91, li_93, li_98, li_100, li_103, li_105, li_107, li_109, li_110, li_111, li_112, li_115, li_118, li_119, li_120, li_121, li_124, li_140, li_180, li_206, li_240, li_255, li_420, li_520, li_999, li_1000, li_1771, li_8240, li_9999, li_88200, li_1000000, li_2097151, li_31, nI_add, pk_mul, zz_sub, zz_an, nI_clamp, zz_leT, zz_leF, zz_ltT, zz_ltF, zz_eqF, zz_eqT, zz_m1, zz_m2, zz_m3, zz_m4, zz_m5, zz_m6, zz_ck, zz_bl, zz_b3, zz_b2, zz_shl, zz_bt0, zz_bt1, pk_div, Nat.zero_add, Nat.add_zero, if_true, if_false, reduceIte, Nat.mul_zero, zz_or0, zz_inT, zz_inF, hmn, t0]
      exact ih
theorem pc_v19 {g : Nat → Nat → Nat} (hg : GW g) (n d : Nat) {I : am_I} (h : CS I g) (L : am_L) {s : Nat} (hs : s < 2) : ∀ (j i F : Nat), i + j = g 0 0 → j < F → fX11_victors_t_b19 n d F (nI s) (nI (foe g s i)) (nI i) I L = fX11_victors_t_b73 n d n (nI s) (nI (foe g s (g 0 0))) (nI 0) (nI 0) I L
  | _, _, 0, _, f => by omega
  | 0, i, F + 1, e, f => by
    have gm := hg.1
    have e1 : i = g 0 0 := by omega
    subst e1
    have hmn := h.1
    simp (disch := omega) only [fX11_victors_t_b19, fX11_victors_t_b19w, zz_lt, li_0, li_1, li_2, li_3, li_4, li_5, li_6, li_7, li_8, li_9, li_10, li_11, li_12, li_15, li_16, li_20, li_21, li_24, li_25, li_26, li_32, li_33, li_38, li_40, li_41, li_42, li_43, li_45, li_47, li_48, li_57, li_58, li_59, li_60, li_61, li_62, li_63, li_74, li_75, li_84, li_91, li_93, li_98, li_100, li_103, li_105, li_107, li_109, li_110, li_111, li_112, li_115, li_118, li_119, li_120, li_121, li_124, li_140, li_180, li_206, li_240, li_255, li_420, li_520, li_999, li_1000, li_1771, li_8240, li_9999, li_88200, li_1000000, li_2097151, li_31, nI_add, pk_mul, zz_sub, zz_an, nI_clamp, zz_leT, zz_leF, zz_ltT, zz_ltF, zz_eqF, zz_eqT, zz_m1, zz_m2, zz_m3, zz_m4, zz_m5, zz_m6, zz_ck, zz_bl, zz_b3, zz_b2, zz_shl, zz_bt0, zz_bt1, pk_div, Nat.zero_add, Nat.add_zero, if_true, if_false, reduceIte, Nat.mul_zero, zz_or0, zz_inT, zz_inF, hmn]
  | j + 1, i, F + 1, e, f => by
    have gm := hg.1
    have hmn := h.1
    have i1 : i < g 0 0 := by omega
    have t0 := h.2.2.2.2.2.1 i i1
    have b1 := hg.2.2.2.2.2.1 i i1
    have cg := pc_canGo hg h n d L i1
    have fl := foe_le g s i
    have ih := pc_v19 hg n d h L hs j (i + 1) F (by omega) (by omega)
    rw [foe_s] at ih
    by_cases c1 : g 1 i = s
    · rw [if_neg (fun z => z.1 c1)] at ih
      rw [← ih]
      simp (disch := omega) only [fX11_victors_t_b19, fX11_victors_t_b19w, fX11_victors_t_b59, fX11_victors_t_b60, zz_lt, li_0, li_1, li_2, li_3, li_4, li_5, li_6, li_7, li_8, li_9, li_10, li_11, li_12, li_15, li_16, li_20, li_21, li_24, li_25, li_26, li_32, li_33, li_38, li_40, li_41, li_42, li_43, li_45, li_47, li_48, li_57, li_58, li_59, li_60, li_61, li_62, li_63, li_74, li_75, li_84, li_91, li_93, li_98, li_100, li_103, li_105, li_107, li_109, li_110, li_111, li_112, li_115, li_118, li_119, li_120, li_121, li_124, li_140, li_180, li_206, li_240, li_255, li_420, li_520, li_999, li_1000, li_1771, li_8240, li_9999, li_88200, li_1000000, li_2097151, li_31, nI_add, pk_mul, zz_sub, zz_an, nI_clamp, zz_leT, zz_leF, zz_ltT, zz_ltF, zz_eqF, zz_eqT, zz_m1, zz_m2, zz_m3, zz_m4, zz_m5, zz_m6, zz_ck, zz_bl, zz_b3, zz_b2, zz_shl, zz_bt0, zz_bt1, pk_div, Nat.zero_add, Nat.add_zero, if_true, if_false, reduceIte, Nat.mul_zero, zz_or0, zz_inT, zz_inF, hmn, t0]
    · by_cases c2 : 0 < g 9 i
      · rw [if_pos c2] at cg
        rw [if_pos ⟨c1, c2⟩] at ih
        rw [← ih]
        simp (disch := omega) only [fX11_victors_t_b19, fX11_victors_t_b19w, fX11_victors_t_b59, fX11_victors_t_b60, zz_lt, li_0, li_1, li_2, li_3, li_4, li_5, li_6, li_7, li_8, li_9, li_10, li_11, li_12, li_15, li_16, li_20, li_21, li_24, li_25, li_26, li_32, li_33, li_38, li_40, li_41, li_42, li_43, li_45, li_47, li_48, li_57, li_58, li_59, li_60, li_61, li_62, li_63, li_74, li_75, li_84, li_91, li_93, li_98, li_100, li_103, li_105, li_107, li_109, li_110, li_111, li_112, li_115, li_118, li_119, li_120, li_121, li_124, li_140, li_180, li_206, li_240, li_255, li_420, li_520, li_999, li_1000, li_1771, li_8240, li_9999, li_88200, li_1000000, li_2097151, li_31, nI_add, pk_mul, zz_sub, zz_an, nI_clamp, zz_leT, zz_leF, zz_ltT, zz_ltF, zz_eqF, zz_eqT, zz_m1, zz_m2, zz_m3, zz_m4, zz_m5, zz_m6, zz_ck, zz_bl, zz_b3, zz_b2, zz_shl, zz_bt0, zz_bt1, pk_div, Nat.zero_add, Nat.add_zero, if_true, if_false, reduceIte, Nat.mul_zero, zz_or0, zz_inT, zz_inF, hmn, t0, cg]
      · rw [if_neg c2] at cg
        rw [if_neg (fun z => c2 z.2)] at ih
        rw [← ih]
        simp (disch := omega) only [fX11_victors_t_b19, fX11_victors_t_b19w, fX11_victors_t_b59, fX11_victors_t_b60, zz_lt, li_0, li_1, li_2, li_3, li_4, li_5, li_6, li_7, li_8, li_9, li_10, li_11, li_12, li_15, li_16, li_20, li_21, li_24, li_25, li_26, li_32, li_33, li_38, li_40, li_41, li_42, li_43, li_45, li_47, li_48, li_57, li_58, li_59, li_60, li_61, li_62, li_63, li_74, li_75, li_84, li_91, li_93, li_98, li_100, li_103, li_105, li_107, li_109, li_110, li_111, li_112, li_115, li_118, li_119, li_120, li_121, li_124, li_140, li_180, li_206, li_240, li_255, li_420, li_520, li_999, li_1000, li_1771, li_8240, li_9999, li_88200, li_1000000, li_2097151, li_31, nI_add, pk_mul, zz_sub, zz_an, nI_clamp, zz_leT, zz_leF, zz_ltT, zz_ltF, zz_eqF, zz_eqT, zz_m1, zz_m2, zz_m3, zz_m4, zz_m5, zz_m6, zz_ck, zz_bl, zz_b3, zz_b2, zz_shl, zz_bt0, zz_bt1, pk_div, Nat.zero_add, Nat.add_zero, if_true, if_false, reduceIte, Nat.mul_zero, zz_or0, zz_inT, zz_inF, hmn, t0, cg]
theorem pm_v21 {g : Nat → Nat → Nat} (hg : GW g) (n d : Nat) (hn : 88200 < n) (hd : 150 < d) (L : am_L) {s : Nat} (hs : s < 2) : ∀ (j i F : Nat) (I : am_I), i + j = g 0 0 → j < F → MS I g → ∃ I', fX12_victors_b21 n d F (nI s) (am_bits (vcs g s) i) (nI (foe g s (g 0 0))) (nI i) I L = some (am_bits (vcs g s) (g 0 0), I', L) ∧ am_ag scrM I I'
  | _, _, 0, _, _, f, _ => by omega
  | 0, i, F + 1, I, e, f, h => by
    have gm := hg.1
    have e1 : i = g 0 0 := by omega
    subst e1
    have hmn := h.1
    exact ⟨I, by simp (disch := omega) only [fX12_victors_b21, fX12_victors_b21w, zz_lt, li_0, li_1, li_2, li_3, li_4, li_5, li_6, li_7, li_8, li_9, li_10, li_11, li_12, li_15, li_16, li_20, li_21, li_24, li_25, li_26, li_32, li_33, li_38, li_40, li_41, li_42, li_43, li_45, li_47, li_48, li_57, li_58, li_59, li_60, li_61, li_62, li_63, li_74, li_75, li_84, li_91, li_93, li_98, li_100, li_103, li_105, li_107, li_109, li_110, li_111, li_112, li_115, li_118, li_119, li_120, li_121, li_124, li_140, li_180, li_206, li_240, li_255, li_420, li_520, li_999, li_1000, li_1771, li_8240, li_9999, li_88200, li_1000000, li_2097151, li_31, nI_add, pk_mul, zz_sub, zz_an, nI_clamp, zz_leT, zz_leF, zz_ltT, zz_ltF, zz_eqF, zz_eqT, zz_m1, zz_m2, zz_m3, zz_m4, zz_m5, zz_m6, zz_ck, zz_bl, zz_b3, zz_b2, zz_shl, zz_bt0, zz_bt1, pk_div, Nat.zero_add, Nat.add_zero, if_true, if_false, reduceIte, Nat.mul_zero, zz_or0, zz_inT, zz_inF, hmn], ag_rf⟩
  | j + 1, i, F + 1, I, e, f, h => by
    have gm := hg.1
    have hmn := h.1
    have i1 : i < g 0 0 := by omega
    have sd := pm_side hg h n d L i1
    have b1 := hg.2.2.2.2.2.1 i i1
    have r0 := h.2.2.2.2.2.2.2.2.2.2.2.2.2.1 i i1
    have rr := hg.2.2.2.2.2.2.2.2.1 i i1
    have ti := tot_le hg s i 6
    have fl := foe_le g s (g 0 0)
    have ih := fun J hJ => pm_v21 hg n d hn hd L hs j (i + 1) F J (by omega) (by omega) hJ
    rw [vcs_s] at ih
    by_cases c1 : g 1 i = s
    · by_cases c2 : 0 < g 9 i
      · by_cases c3 : 0 < foe g s (g 0 0)
        · obtain ⟨I1, w1, w2⟩ := pm_wins hg n d hn hd h L i1 c2
          rw [c1] at w1
          obtain ⟨I2, v1, v2⟩ := ih I1 (MS_keep h w2)
          refine ⟨I2, ?_, ag_tr w2 v2⟩
          rw [← v1]
          by_cases c4 : tot g s i 6 = foe g s (g 0 0)
          · rw [if_pos (show vcs g s i = true from decide_eq_true ⟨⟨c1, c2⟩, c3, c4⟩)]
            rw [c4] at w1
            simp (disch := omega) only [fX12_victors_b21, fX12_victors_b21w, fX12_victors_b74, fX12_victors_b75, zz_lt, li_0, li_1, li_2, li_3, li_4, li_5, li_6, li_7, li_8, li_9, li_10, li_11, li_12, li_15, li_16, li_20, li_21, li_24, li_25, li_26, li_32, li_33, li_38, li_40, li_41, li_42, li_43, li_45, li_47, li_48, li_57, li_58, li_59, li_60, li_61, li_62, li_63, li_74, li_75, li_84, li_91, li_93, li_98, li_100, li_103, li_105, li_107, li_109, li_110, li_111, li_112, li_115, li_118, li_119, li_120, li_121, li_124, li_140, li_180, li_206, li_240, li_255, li_420, li_520, li_999, li_1000, li_1771, li_8240, li_9999, li_88200, li_1000000, li_2097151, li_31, nI_add, pk_mul, zz_sub, zz_an, nI_clamp, zz_leT, zz_leF, zz_ltT, zz_ltF, zz_eqF, zz_eqT, zz_m1, zz_m2, zz_m3, zz_m4, zz_m5, zz_m6, zz_ck, zz_bl, zz_b3, zz_b2, zz_shl, zz_bt0, zz_bt1, pk_div, Nat.zero_add, Nat.add_zero, if_true, if_false, reduceIte, Nat.mul_zero, zz_or0, zz_inT, zz_inF, hmn, sd, r0, w1]
          · rw [if_neg (fun z => c4 (of_decide_eq_true z).2.2)]
            simp (disch := omega) only [fX12_victors_b21, fX12_victors_b21w, fX12_victors_b74, fX12_victors_b75, zz_lt, li_0, li_1, li_2, li_3, li_4, li_5, li_6, li_7, li_8, li_9, li_10, li_11, li_12, li_15, li_16, li_20, li_21, li_24, li_25, li_26, li_32, li_33, li_38, li_40, li_41, li_42, li_43, li_45, li_47, li_48, li_57, li_58, li_59, li_60, li_61, li_62, li_63, li_74, li_75, li_84, li_91, li_93, li_98, li_100, li_103, li_105, li_107, li_109, li_110, li_111, li_112, li_115, li_118, li_119, li_120, li_121, li_124, li_140, li_180, li_206, li_240, li_255, li_420, li_520, li_999, li_1000, li_1771, li_8240, li_9999, li_88200, li_1000000, li_2097151, li_31, nI_add, pk_mul, zz_sub, zz_an, nI_clamp, zz_leT, zz_leF, zz_ltT, zz_ltF, zz_eqF, zz_eqT, zz_m1, zz_m2, zz_m3, zz_m4, zz_m5, zz_m6, zz_ck, zz_bl, zz_b3, zz_b2, zz_shl, zz_bt0, zz_bt1, pk_div, Nat.zero_add, Nat.add_zero, if_true, if_false, reduceIte, Nat.mul_zero, zz_or0, zz_inT, zz_inF, hmn, sd, r0, w1]
        · obtain ⟨I2, v1, v2⟩ := ih I h
          refine ⟨I2, ?_, v2⟩
          rw [if_neg (fun z => c3 (of_decide_eq_true z).2.1)] at v1
          rw [← v1]
          simp (disch := omega) only [fX12_victors_b21, fX12_victors_b21w, fX12_victors_b74, fX12_victors_b75, zz_lt, li_0, li_1, li_2, li_3, li_4, li_5, li_6, li_7, li_8, li_9, li_10, li_11, li_12, li_15, li_16, li_20, li_21, li_24, li_25, li_26, li_32, li_33, li_38, li_40, li_41, li_42, li_43, li_45, li_47, li_48, li_57, li_58, li_59, li_60, li_61, li_62, li_63, li_74, li_75, li_84, li_91, li_93, li_98, li_100, li_103, li_105, li_107, li_109, li_110, li_111, li_112, li_115, li_118, li_119, li_120, li_121, li_124, li_140, li_180, li_206, li_240, li_255, li_420, li_520, li_999, li_1000, li_1771, li_8240, li_9999, li_88200, li_1000000, li_2097151, li_31, nI_add, pk_mul, zz_sub, zz_an, nI_clamp, zz_leT, zz_leF, zz_ltT, zz_ltF, zz_eqF, zz_eqT, zz_m1, zz_m2, zz_m3, zz_m4, zz_m5, zz_m6, zz_ck, zz_bl, zz_b3, zz_b2, zz_shl, zz_bt0, zz_bt1, pk_div, Nat.zero_add, Nat.add_zero, if_true, if_false, reduceIte, Nat.mul_zero, zz_or0, zz_inT, zz_inF, hmn, sd, r0]
      · obtain ⟨I2, v1, v2⟩ := ih I h
        refine ⟨I2, ?_, v2⟩
        rw [if_neg (fun z => c2 (of_decide_eq_true z).1.2)] at v1
        rw [← v1]
        simp (disch := omega) only [fX12_victors_b21, fX12_victors_b21w, fX12_victors_b74, fX12_victors_b75, zz_lt, li_0, li_1, li_2, li_3, li_4, li_5, li_6, li_7, li_8, li_9, li_10, li_11, li_12, li_15, li_16, li_20, li_21, li_24, li_25, li_26, li_32, li_33, li_38, li_40, li_41, li_42, li_43, li_45, li_47, li_48, li_57, li_58, li_59, li_60, li_61, li_62, li_63, li_74, li_75, li_84, li_91, li_93, li_98, li_100, li_103, li_105, li_107, li_109, li_110, li_111, li_112, li_115, li_118, li_119, li_120, li_121, li_124, li_140, li_180, li_206, li_240, li_255, li_420, li_520, li_999, li_1000, li_1771, li_8240, li_9999, li_88200, li_1000000, li_2097151, li_31, nI_add, pk_mul, zz_sub, zz_an, nI_clamp, zz_leT, zz_leF, zz_ltT, zz_ltF, zz_eqF, zz_eqT, zz_m1, zz_m2, zz_m3, zz_m4, zz_m5, zz_m6, zz_ck, zz_bl, zz_b3, zz_b2, zz_shl, zz_bt0, zz_bt1, pk_div, Nat.zero_add, Nat.add_zero, if_true, if_false, reduceIte, Nat.mul_zero, zz_or0, zz_inT, zz_inF, hmn, sd, r0]
    · obtain ⟨I2, v1, v2⟩ := ih I h
      refine ⟨I2, ?_, v2⟩
      rw [if_neg (fun z => c1 (of_decide_eq_true z).1.1)] at v1
      rw [← v1]
      simp (disch := omega) only [fX12_victors_b21, fX12_victors_b21w, fX12_victors_b74, fX12_victors_b75, zz_lt, li_0, li_1, li_2, li_3, li_4, li_5, li_6, li_7, li_8, li_9, li_10, li_11, li_12, li_15, li_16, li_20, li_21, li_24, li_25, li_26, li_32, li_33, li_38, li_40, li_41, li_42, li_43, li_45, li_47, li_48, li_57, li_58, li_59, li_60, li_61, li_62, li_63, li_74, li_75, li_84, li_91, li_93, li_98, li_100, li_103, li_105, li_107, li_109, li_110, li_111, li_112, li_115, li_118, li_119, li_120, li_121, li_124, li_140, li_180, li_206, li_240, li_255, li_420, li_520, li_999, li_1000, li_1771, li_8240, li_9999, li_88200, li_1000000, li_2097151, li_31, nI_add, pk_mul, zz_sub, zz_an, nI_clamp, zz_leT, zz_leF, zz_ltT, zz_ltF, zz_eqF, zz_eqT, zz_m1, zz_m2, zz_m3, zz_m4, zz_m5, zz_m6, zz_ck, zz_bl, zz_b3, zz_b2, zz_shl, zz_bt0, zz_bt1, pk_div, Nat.zero_add, Nat.add_zero, if_true, if_false, reduceIte, Nat.mul_zero, zz_or0, zz_inT, zz_inF, hmn, sd]
theorem opn_victors {g : Nat → Nat → Nat} {IC IM : am_I} (n d : Nat) (hn : 88200 < n) (hd : 150 < d) (hg : GW g) (hc : CS IC g) (h : MS IM g) (hR : g 0 0 = 0 ∨ rDu IC g) (LC LM : am_L) (e : Int32) : am_du (fX11_victors_t n d e IC LC) (fX12_victors n d e IM LM) IC LC IM LM g := by
  have gm := hg.1
  rcases side_of (g := g) e with he | ⟨s, hs, rfl, h0⟩
  · exact ⟨-nI 1, IC, IM, by simp (disch := omega) only [fX11_victors_t, pc_is0 hg hc n d LC he, zz_lt, li_0, li_1, li_2, li_3, li_4, li_5, li_6, li_7, li_8, li_9, li_10, li_11, li_12, li_15, li_16, li_20, li_21, li_24, li_25, li_26, li_32, li_33, li_38, li_40, li_41, li_42, li_43, li_45, li_47, li_48, li_57, li_58, li_59, li_60, li_61, li_62, li_63, li_74, li_75, li_84, li_91, li_93, li_98, li_100, li_103, li_105, li_107, li_109, li_110, li_111, li_112, li_115, li_118, li_119, li_120, li_121, li_124, li_140, li_180, li_206, li_240, li_255, li_420, li_520, li_999, li_1000, li_1771, li_8240, li_9999, li_88200, li_1000000, li_2097151, li_31, nI_add, pk_mul, zz_sub, zz_an, nI_clamp, zz_leT, zz_leF, zz_ltT, zz_ltF, zz_eqF, zz_eqT, zz_m1, zz_m2, zz_m3, zz_m4, zz_m5, zz_m6, zz_ck, zz_bl, zz_b3, zz_b2, zz_shl, zz_bt0, zz_bt1, pk_div, Nat.zero_add, Nat.add_zero, if_true, if_false, reduceIte, Nat.mul_zero, zz_or0, zz_inT, zz_inF], by simp (disch := omega) only [fX12_victors, pm_is0 hg h n d LM he, zz_lt, li_0, li_1, li_2, li_3, li_4, li_5, li_6, li_7, li_8, li_9, li_10, li_11, li_12, li_15, li_16, li_20, li_21, li_24, li_25, li_26, li_32, li_33, li_38, li_40, li_41, li_42, li_43, li_45, li_47, li_48, li_57, li_58, li_59, li_60, li_61, li_62, li_63, li_74, li_75, li_84, li_91, li_93, li_98, li_100, li_103, li_105, li_107, li_109, li_110, li_111, li_112, li_115, li_118, li_119, li_120, li_121, li_124, li_140, li_180, li_206, li_240, li_255, li_420, li_520, li_999, li_1000, li_1771, li_8240, li_9999, li_88200, li_1000000, li_2097151, li_31, nI_add, pk_mul, zz_sub, zz_an, nI_clamp, zz_leT, zz_leF, zz_ltT, zz_ltF, zz_eqF, zz_eqT, zz_m1, zz_m2, zz_m3, zz_m4, zz_m5, zz_m6, zz_ck, zz_bl, zz_b3, zz_b2, zz_shl, zz_bt0, zz_bt1, pk_div, Nat.zero_add, Nat.add_zero, if_true, if_false, reduceIte, Nat.mul_zero, zz_or0, zz_inT, zz_inF], ag_rf, ag_rf, hR⟩
  · have hR' : rDu IC g := hR.resolve_left (by omega)
    obtain ⟨I1, w1, w2, w3, w4⟩ := pc_count hg n d (by omega) hc hR' LC hs
    have c1 := CS_Dq hc w3
    have a := pc_v19 hg n d c1 LC hs (g 0 0) 0 n (by omega) (by omega)
    have b := pc_v73 hg n d c1 LC hs w4 (g 0 0) 0 n (by omega) (by omega)
    have fo := pm_foeL hg n d h LM hs (g 0 0) 0 n (by omega) (by omega)
    obtain ⟨J1, v1, v2⟩ := pm_v21 hg n d hn hd LM hs (g 0 0) 0 n IM (by omega) (by omega) h
    have z0 : foe g s 0 = 0 := rfl
    have z1 : am_bits (vcs g s) 0 = nI 0 := rfl
    rw [z0] at a fo
    rw [z1] at b v1
    have fo' : fX12_foes n d (nI s) IM LM = some (nI (foe g s (g 0 0)), IM, LM) := by
      rw [← fo]; simp (disch := omega) only [fX12_foes, zz_lt, li_0, li_1, li_2, li_3, li_4, li_5, li_6, li_7, li_8, li_9, li_10, li_11, li_12, li_15, li_16, li_20, li_21, li_24, li_25, li_26, li_32, li_33, li_38, li_40, li_41, li_42, li_43, li_45, li_47, li_48, li_57, li_58, li_59, li_60, li_61, li_62, li_63, li_74, li_75, li_84, li_91, li_93, li_98, li_100, li_103, li_105, li_107, li_109, li_110, li_111, li_112, li_115, li_118, li_119, li_120, li_121, li_124, li_140, li_180, li_206, li_240, li_255, li_420, li_520, li_999, li_1000, li_1771, li_8240, li_9999, li_88200, li_1000000, li_2097151, li_31, nI_add, pk_mul, zz_sub, zz_an, nI_clamp, zz_leT, zz_leF, zz_ltT, zz_ltF, zz_eqF, zz_eqT, zz_m1, zz_m2, zz_m3, zz_m4, zz_m5, zz_m6, zz_ck, zz_bl, zz_b3, zz_b2, zz_shl, zz_bt0, zz_bt1, pk_div, Nat.zero_add, Nat.add_zero, if_true, if_false, reduceIte, Nat.mul_zero, zz_or0, zz_inT, zz_inF]
    refine ⟨am_bits (vcs g s) (g 0 0), I1, J1, ?_, ?_, w3, v2, Or.inr w2⟩
    · rw [← b, ← a]
      simp (disch := omega) only [fX11_victors_t, fX11_victors_t_b15, pc_is1 hg hc n d LC hs h0, zz_lt, li_0, li_1, li_2, li_3, li_4, li_5, li_6, li_7, li_8, li_9, li_10, li_11, li_12, li_15, li_16, li_20, li_21, li_24, li_25, li_26, li_32, li_33, li_38, li_40, li_41, li_42, li_43, li_45, li_47, li_48, li_57, li_58, li_59, li_60, li_61, li_62, li_63, li_74, li_75, li_84, li_91, li_93, li_98, li_100, li_103, li_105, li_107, li_109, li_110, li_111, li_112, li_115, li_118, li_119, li_120, li_121, li_124, li_140, li_180, li_206, li_240, li_255, li_420, li_520, li_999, li_1000, li_1771, li_8240, li_9999, li_88200, li_1000000, li_2097151, li_31, nI_add, pk_mul, zz_sub, zz_an, nI_clamp, zz_leT, zz_leF, zz_ltT, zz_ltF, zz_eqF, zz_eqT, zz_m1, zz_m2, zz_m3, zz_m4, zz_m5, zz_m6, zz_ck, zz_bl, zz_b3, zz_b2, zz_shl, zz_bt0, zz_bt1, pk_div, Nat.zero_add, Nat.add_zero, if_true, if_false, reduceIte, Nat.mul_zero, zz_or0, zz_inT, zz_inF, w1]
    · rw [← v1]
      simp (disch := omega) only [fX12_victors, pm_is1 hg h n d LM hs h0, zz_lt, li_0, li_1, li_2, li_3, li_4, li_5, li_6, li_7, li_8, li_9, li_10, li_11, li_12, li_15, li_16, li_20, li_21, li_24, li_25, li_26, li_32, li_33, li_38, li_40, li_41, li_42, li_43, li_45, li_47, li_48, li_57, li_58, li_59, li_60, li_61, li_62, li_63, li_74, li_75, li_84, li_91, li_93, li_98, li_100, li_103, li_105, li_107, li_109, li_110, li_111, li_112, li_115, li_118, li_119, li_120, li_121, li_124, li_140, li_180, li_206, li_240, li_255, li_420, li_520, li_999, li_1000, li_1771, li_8240, li_9999, li_88200, li_1000000, li_2097151, li_31, nI_add, pk_mul, zz_sub, zz_an, nI_clamp, zz_leT, zz_leF, zz_ltT, zz_ltF, zz_eqF, zz_eqT, zz_m1, zz_m2, zz_m3, zz_m4, zz_m5, zz_m6, zz_ck, zz_bl, zz_b3, zz_b2, zz_shl, zz_bt0, zz_bt1, pk_div, Nat.zero_add, Nat.add_zero, if_true, if_false, reduceIte, Nat.mul_zero, zz_or0, zz_inT, zz_inF, fo']
theorem op_champion {g : Nat → Nat → Nat} {IC IM : am_I} (hg : GW g) (hc : CS IC g) (h : MS IM g) (hR : g 0 0 = 0 ∨ rDu IC g) (LC LM : am_L) (e : Int32) : am_du (fX11_champion_t am_N 1900 e IC LC) (fX12_champion am_N 1900 e IM LM) IC LC IM LM g := opn_champion am_N 1900 am_N88 (by omega) hg hc h hR LC LM e
theorem op_victors {g : Nat → Nat → Nat} {IC IM : am_I} (hg : GW g) (hc : CS IC g) (h : MS IM g) (hR : g 0 0 = 0 ∨ rDu IC g) (LC LM : am_L) (e : Int32) : am_du (fX11_victors_t am_N 1900 e IC LC) (fX12_victors am_N 1900 e IM LM) IC LC IM LM g := opn_victors am_N 1900 am_N88 (by omega) hg hc h hR LC LM e
