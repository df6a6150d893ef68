/-! PURE: duels: the model's duelWith. -/
theorem clrL (n d : Nat) (L : am_L) (a1 a2 a3 : Int32) {M : Nat} (hM : M = 88200) : ∀ (j i F : Nat) (I : am_I), i + j = M → j < F → (∀ k, k < i → I 19 k = nI 0) → ∃ I', fX12_duelWith_b3 n d F a1 a2 a3 (nI i) I L = fX12_duelWith_b3 n d (F - j) a1 a2 a3 (nI M) I' L ∧ (∀ k, k < M → I' 19 k = nI 0) ∧ (∀ k, k ≠ 19 → I' k = I k)
  | _, _, 0, _, _, f, _ => by omega
  | 0, i, F + 1, I, e, f, h => by
    have e1 : i = M := by omega
    subst e1
    exact ⟨I, rfl, h, fun _ _ => rfl⟩
  | j + 1, i, F + 1, I, e, f, h => by
    obtain ⟨I', w1, w2, w3⟩ := clrL n d L a1 a2 a3 hM j (i + 1) F (am_up I 19 i (nI 0)) (by omega) (by omega) (fun k hk => by
      by_cases c : k = i
      · rw [c]; exact up_s rfl
      · rw [up_n c]; exact h k (by omega))
    refine ⟨I', ?_, w2, fun k hk => (w3 k hk).trans (am_up_ne hk)⟩
    rw [show F + 1 - (j + 1) = F - j by omega, ← w1]
    have hi : i < 88200 := by omega
    simp (disch := omega) only [fX12_duelWith_b3, fX12_duelWith_b3w, zz_lt, li_0, li_1, li_2, li_3, li_4, li_5, li_6, li_7, li_8, li_9, li_10, li_11, li_12, li_15, li_16, li_20, li_21, li_24, li_25, li_26, li_32, li_33, li_38, li_40, li_41, li_42, li_43, li_45, li_47, li_48, li_57, li_58, li_59, li_60, li_61, li_62, li_63, li_74, li_75, li_84, li_91, li_93, li_98, li_100, li_103, li_105, li_107, li_109, li_110, li_111, li_112, li_115, li_118, li_119, li_120, li_121, li_124, li_140, li_180, li_206, li_240, li_255, li_420, li_520, li_999, li_1000, li_1771, li_8240, li_9999, li_88200, li_1000000, li_2097151, li_31, nI_add, pk_mul, zz_sub, zz_an, nI_clamp, zz_leT, zz_leF, zz_ltT, zz_ltF, zz_eqF, zz_eqT, zz_m1, zz_m2, zz_m3, zz_m4, zz_m5, zz_m6, zz_ck, zz_bl, zz_b3, zz_b2, zz_shl, zz_bt0, zz_bt1, pk_div, Nat.zero_add, Nat.add_zero, if_true, if_false, reduceIte, Nat.mul_zero, zz_or0, zz_inT, zz_inF]
theorem pm_dw {g : Nat → Nat → Nat} (hg : GW g) (n d : Nat) (hn : 88200 < n) (hd : 150 < d) {I : am_I} (h : MS I g) (L : am_L) {m o e : Nat} (hm : m < g 0 0) (ho : o < g 0 0) (h9 : 1 ≤ g 9 m) (h9' : 1 ≤ g 9 o) (he : e ≤ g 10 m) (he' : e ≤ g 10 o) : ∃ I', fX12_duelWith n d (nI m) (nI o) (nI e) I L = some (svd (DU g (g 3 m) (g 3 o) (g 9 m) (g 10 m - e) (g 9 o) (g 10 o - e)).1, I', L) ∧ am_ag scrM I I' ∧ I' 0 34 = nI (DU g (g 3 m) (g 3 o) (g 9 m) (g 10 m - e) (g 9 o) (g 10 o - e)).2 := by
  obtain ⟨M, hM⟩ : ∃ M, M = 88200 := ⟨_, rfl⟩
  obtain ⟨I1, w1, w2, w3⟩ := clrL n d L (nI m) (nI o) (nI e) hM M 0 n I (by omega) (by omega) (fun k hk => by omega)
  obtain ⟨F, hF⟩ : ∃ F, n - M = F + 1 := ⟨n - M - 1, by omega⟩
  rw [hF] at w1
  have men := hg.1
  have sp1 := hg.2.2.2.2.2.1 m hm
  have sp2 := hg.2.2.2.2.2.1 o ho
  have rr1 := hg.2.2.2.2.2.2.2.2.1 m hm
  have rr2 := hg.2.2.2.2.2.2.2.2.1 o ho
  have a1 : am_ag scrM I I1 := fun k j hk => by
    rw [w3 k (fun z => by subst z; simp [scrM] at hk)]
  have h1 := MS_keep h a1
  have a2 : am_ag scrM I (am_up (am_up I1 20 0 (nI (g 3 m))) 20 1 (nI (g 3 o))) := ag_up (ag_up a1 rfl) rfl
  have h2 := MS_keep h a2
  have z19 : ∀ k, k < 88200 → (am_up (am_up I1 20 0 (nI (g 3 m))) 20 1 (nI (g 3 o))) 19 k = nI 0 := fun k hk => by rw [am_up_ne (by omega), am_up_ne (by omega)]; exact w2 k (by omega)
  have x0 : (am_up (am_up I1 20 0 (nI (g 3 m))) 20 1 (nI (g 3 o))) 20 0 = nI (g 3 m) := by rw [up_n (by omega), up_s rfl]
  have x1 : (am_up (am_up I1 20 0 (nI (g 3 m))) 20 1 (nI (g 3 o))) 20 1 = nI (g 3 o) := up_s rfl
  have b14 : (am_up I1 20 0 (nI (g 3 m))) 14 (6 * o + 2) = nI (g 3 o) := by rw [am_up_ne (by omega)]; exact h1.2.2.2.2.2.2.2.1 o ho
  have t2 := h1.2.2.2.2.2.2.2.1 m hm
  have r0m := h2.2.2.2.2.2.2.2.2.2.2.2.2.2.1 m hm
  have r0o := h2.2.2.2.2.2.2.2.2.2.2.2.2.2.1 o ho
  have r1m := h2.2.2.2.2.2.2.2.2.2.2.2.2.2.2.1 m hm
  have r1o := h2.2.2.2.2.2.2.2.2.2.2.2.2.2.2.1 o ho
  obtain ⟨I2, hI2⟩ : ∃ I2, I2 = am_up (am_up I1 20 0 (nI (g 3 m))) 20 1 (nI (g 3 o)) := ⟨_, rfl⟩
  have hI2' := hI2.symm
  rw [← hI2] at a2 h2 z19 x0 x1 r0m r0o r1m r1o
  have hT : MT g (g 3 m) (g 3 o) I2 := fun t a r b q y1 y2 y3 y4 y5 y6 y7 => Or.inl (z19 _ (by
    have := gRest_le hg a
    have := gRest_le hg b
    unfold ixd
    omega))
  obtain ⟨d', hd'⟩ : ∃ d', d = d' + 1 := ⟨d - 1, by omega⟩
  have p1 := plc_le hg rr1.1 (r := g 10 m - e) (by omega)
  have p2 := plc_le hg rr2.1 (r := g 10 o - e) (by omega)
  obtain ⟨I3, v1, v2, v3, v4⟩ := oc hg n (by omega) L (x := g 3 m) (y := g 3 o) ⟨sp1.2.2.1, sp1.2.2.2.1⟩ ⟨sp2.2.2.1, sp2.2.2.2.1⟩ d' 0 (g 9 m) (g 10 m - e) (g 9 o) (g 10 o - e) I2 (by omega) ⟨h9, rr1.1⟩ (by omega) ⟨h9', rr2.1⟩ (by omega) (by omega) h2 x0 x1 hT
  have v4' := v4 (z19 _ (by
    have := gRest_le hg (g 9 m)
    have := gRest_le hg (g 9 o)
    unfold ixd
    omega))
  have e0 : spd (g 3 m) (g 3 o) 0 = g 3 m := rfl
  have e1 : spd (g 3 m) (g 3 o) (1 - 0) = g 3 o := rfl
  rw [e0, e1] at v1 v4'
  have oc1 : fX12_outcomeOf n d (nI 0) (nI (g 9 m)) (nI (g 10 m - e)) (nI (g 9 o)) (nI (g 10 o - e)) I2 L = some (svd (DU g (g 3 m) (g 3 o) (g 9 m) (g 10 m - e) (g 9 o) (g 10 o - e)).1, I3, L) := by
    unfold fX12_outcomeOf
    rw [hd']
    exact v1
  refine ⟨I3, ?_, ag_tr a2 (s19_scr v3), v4'⟩
  have st : fX12_duelWith n d (nI m) (nI o) (nI e) I L = fX12_duelWith_b3 n d n (nI m) (nI o) (nI e) (nI 0) I L := by
    simp (disch := omega) only [fX12_duelWith, zz_lt, li_0, li_1, li_2, li_3, li_4, li_5, li_6, li_7, li_8, li_9, li_10, li_11, li_12, li_15, li_16, li_20, li_21, li_24, li_25, li_26, li_32, li_33, li_38, li_40, li_41, li_42, li_43, li_45, li_47, li_48, li_57, li_58, li_59, li_60, li_61, li_62, li_63, li_74, li_75, li_84, li_91, li_93, li_98, li_100, li_103, li_105, li_107, li_109, li_110, li_111, li_112, li_115, li_118, li_119, li_120, li_121, li_124, li_140, li_180, li_206, li_240, li_255, li_420, li_520, li_999, li_1000, li_1771, li_8240, li_9999, li_88200, li_1000000, li_2097151, li_31, nI_add, pk_mul, zz_sub, zz_an, nI_clamp, zz_leT, zz_leF, zz_ltT, zz_ltF, zz_eqF, zz_eqT, zz_m1, zz_m2, zz_m3, zz_m4, zz_m5, zz_m6, zz_ck, zz_bl, zz_b3, zz_b2, zz_shl, zz_bt0, zz_bt1, pk_div, Nat.zero_add, Nat.add_zero, if_true, if_false, reduceIte, Nat.mul_zero, zz_or0, zz_inT, zz_inF]
  rw [st, w1]
  have hMl : (88200 : Int32) ≤ nI M := by rw [hM]; decide
  rw [hM]
  simp (disch := omega) only [fX12_duelWith_b3, fX12_duelWith_b3w, zz_lt, li_0, li_1, li_2, li_3, li_4, li_5, li_6, li_7, li_8, li_9, li_10, li_11, li_12, li_15, li_16, li_20, li_21, li_24, li_25, li_26, li_32, li_33, li_38, li_40, li_41, li_42, li_43, li_45, li_47, li_48, li_57, li_58, li_59, li_60, li_61, li_62, li_63, li_74, li_75, li_84, li_91, li_93, li_98, li_100, li_103, li_105, li_107, li_109, li_110, li_111, li_112, li_115, li_118, li_119, li_120, li_121, li_124, li_140, li_180, li_206, li_240, li_255, li_420, li_520, li_999, li_1000, li_1771, li_8240, li_9999, li_88200, li_1000000, li_2097151, li_31, nI_add, pk_mul, zz_sub, zz_an, nI_clamp, zz_leT, zz_leF, zz_ltT, zz_ltF, zz_eqF, zz_eqT, zz_m1, zz_m2, zz_m3, zz_m4, zz_m5, zz_m6, zz_ck, zz_bl, zz_b3, zz_b2, zz_shl, zz_bt0, zz_bt1, pk_div, Nat.zero_add, Nat.add_zero, if_true, if_false, reduceIte, Nat.mul_zero, zz_or0, zz_inT, zz_inF, t2, b14, hI2', r0m, r0o, r1m, r1o, oc1]
theorem svd_pos {v : Bool × Nat} (h1 : 1 ≤ v.2) (h2 : v.2 ≤ 500) : (svd v ≤ nI 0) = (v.1 = false) := by
  obtain ⟨b, k⟩ := v
  have h1' : 1 ≤ k := h1
  have h2' : k ≤ 500 := h2
  cases b
  · show (-nI k ≤ nI 0) = _
    rw [zz_m5 (by omega)]; simp
  · show (nI k ≤ nI 0) = _
    rw [zz_leF (by omega)]; simp
