/-! PURE: fit, ask, sure. -/
theorem okb_num {X : Nat → Nat → Nat} {N P : Nat} {r : Nat → Nat} (hN : (N = 1 ∧ P = 21) ∨ (N = 2 ∧ P = 441) ∨ (N = 3 ∧ P = 9261)) (h : SRT N r) : okb X N (num r N) = ftl X N (num r N) (X 0 0) 0 := by
  unfold okb
  rw [(so_num hN h).1, Bool.true_and]
theorem pm_powP (I : am_I) (L : am_L) {N P : Nat} (hN : (N = 1 ∧ P = 21) ∨ (N = 2 ∧ P = 441) ∨ (N = 3 ∧ P = 9261)) : fX12_power am_N 1900 (nI N) I L = some (nI P, I, L) := by
  have := pm_pow am_N 1896 I L
  rcases hN with ⟨rfl, rfl⟩ | ⟨rfl, rfl⟩ | ⟨rfl, rfl⟩
  · exact this.1
  · exact this.2.1
  · exact this.2.2
theorem pm_fitS {X : Nat → Nat → Nat} (hX : GX X) {I : am_I} (h : MX I X) (L : am_L) {N P : Nat} (hN : (N = 1 ∧ P = 21) ∨ (N = 2 ∧ P = 441) ∨ (N = 3 ∧ P = 9261)) (a2 a3 : Int32) : ∀ (m x G : Nat), x + m ≤ P → (∀ y, x ≤ y → y < x + m → okb X N y = false) → fX12_fit_b21 am_N 1900 (G + m) (nI N) a2 a3 (nI x) I L = fX12_fit_b21 am_N 1900 G (nI N) a2 a3 (nI (x + m)) I L
  | 0, x, G, _, _ => rfl
  | m + 1, x, G, hx, hy => by
    have ih := pm_fitS hX h L hN a2 a3 m (x + 1) G (by omega) (fun y g1 g2 => hy y (by omega) (by omega))
    have pw := pm_powP I L hN
    have ob := pm_okb hX h am_N 1900 am_N1 L (N := N) (x := x) (by omega) (by omega)
    rw [hy x (by omega) (by omega)] at ob
    rw [show G + (m + 1) = (G + m) + 1 by omega, show x + (m + 1) = x + 1 + m by omega, ← ih]
    simp (disch := omega) only [fX12_fit_b21, fX12_fit_b21w, fX12_fit_b51, zz_lt, li_0, li_1, li_2, li_3, li_4, li_5, li_6, li_7, li_8, li_9, li_10, li_11, li_12, li_15, li_16, li_20, li_21, li_24, li_25, li_26, li_32, li_33, li_38, li_40, li_41, li_42, li_43, li_45, li_47, li_48, li_57, li_58, li_59, li_60, li_61, li_62, li_63, li_74, li_75, li_84, li_91, li_93, li_98, li_100, li_103, li_105, li_107, li_109, li_110, li_111, li_112, li_115, li_118, li_119, li_120, li_121, li_124, li_140, li_180, li_206, li_240, li_255, li_420, li_520, li_999, li_1000, li_1771, li_8240, li_9999, li_88200, li_1000000, li_2097151, li_31, nI_add, pk_mul, zz_sub, zz_an, nI_clamp, zz_leT, zz_leF, zz_ltT, zz_ltF, zz_eqF, zz_eqT, zz_m1, zz_m2, zz_m3, zz_m4, zz_m5, zz_m6, zz_ck, zz_bl, zz_b3, zz_b2, zz_shl, zz_bt0, zz_bt1, pk_div, Nat.zero_add, Nat.add_zero, if_true, if_false, reduceIte, Nat.mul_zero, zz_or0, zz_inT, zz_inF, pw, ob, Bool.toNat_false]
theorem pc_numL (n d : Nat) {I : am_I} (L : am_L) {r : Nat → Nat} (h : RW I r) {N : Nat} (hN : N ≤ 3) : ∀ (j i F : Nat), i + j = N → j < F → fX4_rowNumber_b4 n d F (nI N) (nI (num r i)) (nI i) I L = some (nI (num r N), I, L)
  | _, _, 0, _, f => by omega
  | 0, i, F + 1, e, f => by
    have e1 : i = N := by omega
    subst e1
    simp (disch := omega) only [fX4_rowNumber_b4, fX4_rowNumber_b4w, zz_lt, li_0, li_1, li_2, li_3, li_4, li_5, li_6, li_7, li_8, li_9, li_10, li_11, li_12, li_15, li_16, li_20, li_21, li_24, li_25, li_26, li_32, li_33, li_38, li_40, li_41, li_42, li_43, li_45, li_47, li_48, li_57, li_58, li_59, li_60, li_61, li_62, li_63, li_74, li_75, li_84, li_91, li_93, li_98, li_100, li_103, li_105, li_107, li_109, li_110, li_111, li_112, li_115, li_118, li_119, li_120, li_121, li_124, li_140, li_180, li_206, li_240, li_255, li_420, li_520, li_999, li_1000, li_1771, li_8240, li_9999, li_88200, li_1000000, li_2097151, li_31, nI_add, pk_mul, zz_sub, zz_an, nI_clamp, zz_leT, zz_leF, zz_ltT, zz_ltF, zz_eqF, zz_eqT, zz_m1, zz_m2, zz_m3, zz_m4, zz_m5, zz_m6, zz_ck, zz_bl, zz_b3, zz_b2, zz_shl, zz_bt0, zz_bt1, pk_div, Nat.zero_add, Nat.add_zero, if_true, if_false, reduceIte, Nat.mul_zero, zz_or0, zz_inT, zz_inF]
  | j + 1, i, F + 1, e, f => by
    have ih := pc_numL n d L h hN j (i + 1) F (by omega) (by omega)
    obtain ⟨h1, h2⟩ := h i (by omega)
    simp only [num] at ih
    simp (disch := omega) only [fX4_rowNumber_b4, fX4_rowNumber_b4w, zz_lt, li_0, li_1, li_2, li_3, li_4, li_5, li_6, li_7, li_8, li_9, li_10, li_11, li_12, li_15, li_16, li_20, li_21, li_24, li_25, li_26, li_32, li_33, li_38, li_40, li_41, li_42, li_43, li_45, li_47, li_48, li_57, li_58, li_59, li_60, li_61, li_62, li_63, li_74, li_75, li_84, li_91, li_93, li_98, li_100, li_103, li_105, li_107, li_109, li_110, li_111, li_112, li_115, li_118, li_119, li_120, li_121, li_124, li_140, li_180, li_206, li_240, li_255, li_420, li_520, li_999, li_1000, li_1771, li_8240, li_9999, li_88200, li_1000000, li_2097151, li_31, nI_add, pk_mul, zz_sub, zz_an, nI_clamp, zz_leT, zz_leF, zz_ltT, zz_ltF, zz_eqF, zz_eqT, zz_m1, zz_m2, zz_m3, zz_m4, zz_m5, zz_m6, zz_ck, zz_bl, zz_b3, zz_b2, zz_shl, zz_bt0, zz_bt1, pk_div, Nat.zero_add, Nat.add_zero, if_true, if_false, reduceIte, Nat.mul_zero, zz_or0, zz_inT, zz_inF, h1]
    exact ih
theorem CX_63 {I I' : am_I} {X : Nat → Nat → Nat} (h : CX I X) (a : am_ag s63 I I') : CX I' X := by
  unfold CX at *
  rw [a 60 5 rfl, funext (fun j => a 61 j rfl), funext (fun j => a 62 j rfl)]
  exact h
theorem fit_both {X : Nat → Nat → Nat} (hX : GX X) {N P : Nat} (hN : (N = 1 ∧ P = 21) ∨ (N = 2 ∧ P = 441) ∨ (N = 3 ∧ P = 9261)) (e : Int32) (LC LM : am_L) {IM : am_I} (hM : MX IM X) : ∀ (R F G : Nat) (r : Nat → Nat) (c a4 : Nat) (IC : am_I), rem N r = R → SRT N r → R < F → P < num r N + G → a4 + R ≤ 1771 → RW IC r → CX IC X → ∃ v IC', fX11_fit_b26 am_N 1900 F (nI N) e (nI c) (nI a4) IC LC = some (v, IC', LC) ∧ fX12_fit_b21 am_N 1900 G (nI N) e (nI c) (nI (num r N)) IM LM = some (v, IM, LM) ∧ am_ag s63 IC IC'
  | 0, _, _, r, _, _, _, hr, hs, _, _, _, _, _ => by have := rem_pos hs; omega
  | _, 0, _, _, _, _, _, _, _, f, _, _, _, _ => by omega
  | _, _, 0, r, _, _, _, _, hs, _, f, _, _, _ => by have := (so_num hN hs).2; omega
  | R + 1, F + 1, G + 1, r, c, a4, IC, hr, hs, f, f2, ha, hw, hc => by
    have hP := (so_num hN hs).2
    have n3 : N ≤ 3 := by omega
    have pw := pm_powP IM LM hN
    have ob := pm_okb hX hM am_N 1900 am_N1 LM (N := N) (x := num r N) n3 (by omega)
    rw [okb_num hN hs] at ob
    have ft := pc_ft hX hc am_N 1900 am_N1 LC hw (N := N) n3
    have nm : fX4_rowNumber am_N 1900 (nI N) IC LC = some (nI (num r N), IC, LC) := pc_numL am_N 1900 LC hw n3 N 0 am_N (by omega) (by unfold am_N; omega)
    -- what comes behind this row
    have nxt : ∀ c', ∃ v IC', fX11_fit_b62 am_N 1900 (fX11_fit_b26 am_N 1900 F) (nI N) e (nI c') (nI a4) IC LC = some (v, IC', LC) ∧ fX12_fit_b21 am_N 1900 G (nI N) e (nI c') (nI (num r N + 1)) IM LM = some (v, IM, LM) ∧ am_ag s63 IC IC' := fun c' => by
      rcases pc_nx am_N 1900 am_N8 LC hw (N := N) (by omega) n3 with ⟨q1, q2⟩ | ⟨r', I', q1, q2, q3, q4⟩
      · have hE := nx_no hN hs q1
        obtain ⟨G', rfl⟩ : ∃ G', G = G' + 1 := ⟨G - 1, by omega⟩
        rw [hE]
        by_cases ce : e = -nI 1
        · exact ⟨nI c', IC, by simp (disch := omega) only [fX11_fit_b62, fX11_fit_b82, zz_lt, li_0, li_1, li_2, li_3, li_4, li_5, li_6, li_7, li_8, li_9, li_10, li_11, li_12, li_15, li_16, li_20, li_21, li_24, li_25, li_26, li_32, li_33, li_38, li_40, li_41, li_42, li_43, li_45, li_47, li_48, li_57, li_58, li_59, li_60, li_61, li_62, li_63, li_74, li_75, li_84, li_91, li_93, li_98, li_100, li_103, li_105, li_107, li_109, li_110, li_111, li_112, li_115, li_118, li_119, li_120, li_121, li_124, li_140, li_180, li_206, li_240, li_255, li_420, li_520, li_999, li_1000, li_1771, li_8240, li_9999, li_88200, li_1000000, li_2097151, li_31, nI_add, pk_mul, zz_sub, zz_an, nI_clamp, zz_leT, zz_leF, zz_ltT, zz_ltF, zz_eqF, zz_eqT, zz_m1, zz_m2, zz_m3, zz_m4, zz_m5, zz_m6, zz_ck, zz_bl, zz_b3, zz_b2, zz_shl, zz_bt0, zz_bt1, pk_div, Nat.zero_add, Nat.add_zero, if_true, if_false, reduceIte, Nat.mul_zero, zz_or0, zz_inT, zz_inF, q2, ce], by simp (disch := omega) only [fX12_fit_b21, fX12_fit_b21w, zz_lt, li_0, li_1, li_2, li_3, li_4, li_5, li_6, li_7, li_8, li_9, li_10, li_11, li_12, li_15, li_16, li_20, li_21, li_24, li_25, li_26, li_32, li_33, li_38, li_40, li_41, li_42, li_43, li_45, li_47, li_48, li_57, li_58, li_59, li_60, li_61, li_62, li_63, li_74, li_75, li_84, li_91, li_93, li_98, li_100, li_103, li_105, li_107, li_109, li_110, li_111, li_112, li_115, li_118, li_119, li_120, li_121, li_124, li_140, li_180, li_206, li_240, li_255, li_420, li_520, li_999, li_1000, li_1771, li_8240, li_9999, li_88200, li_1000000, li_2097151, li_31, nI_add, pk_mul, zz_sub, zz_an, nI_clamp, zz_leT, zz_leF, zz_ltT, zz_ltF, zz_eqF, zz_eqT, zz_m1, zz_m2, zz_m3, zz_m4, zz_m5, zz_m6, zz_ck, zz_bl, zz_b3, zz_b2, zz_shl, zz_bt0, zz_bt1, pk_div, Nat.zero_add, Nat.add_zero, if_true, if_false, reduceIte, Nat.mul_zero, zz_or0, zz_inT, zz_inF, pw, ce], ag_rf⟩
        · exact ⟨-nI 1, IC, by simp (disch := omega) only [fX11_fit_b62, fX11_fit_b82, zz_lt, li_0, li_1, li_2, li_3, li_4, li_5, li_6, li_7, li_8, li_9, li_10, li_11, li_12, li_15, li_16, li_20, li_21, li_24, li_25, li_26, li_32, li_33, li_38, li_40, li_41, li_42, li_43, li_45, li_47, li_48, li_57, li_58, li_59, li_60, li_61, li_62, li_63, li_74, li_75, li_84, li_91, li_93, li_98, li_100, li_103, li_105, li_107, li_109, li_110, li_111, li_112, li_115, li_118, li_119, li_120, li_121, li_124, li_140, li_180, li_206, li_240, li_255, li_420, li_520, li_999, li_1000, li_1771, li_8240, li_9999, li_88200, li_1000000, li_2097151, li_31, nI_add, pk_mul, zz_sub, zz_an, nI_clamp, zz_leT, zz_leF, zz_ltT, zz_ltF, zz_eqF, zz_eqT, zz_m1, zz_m2, zz_m3, zz_m4, zz_m5, zz_m6, zz_ck, zz_bl, zz_b3, zz_b2, zz_shl, zz_bt0, zz_bt1, pk_div, Nat.zero_add, Nat.add_zero, if_true, if_false, reduceIte, Nat.mul_zero, zz_or0, zz_inT, zz_inF, q2, ce], by simp (disch := omega) only [fX12_fit_b21, fX12_fit_b21w, zz_lt, li_0, li_1, li_2, li_3, li_4, li_5, li_6, li_7, li_8, li_9, li_10, li_11, li_12, li_15, li_16, li_20, li_21, li_24, li_25, li_26, li_32, li_33, li_38, li_40, li_41, li_42, li_43, li_45, li_47, li_48, li_57, li_58, li_59, li_60, li_61, li_62, li_63, li_74, li_75, li_84, li_91, li_93, li_98, li_100, li_103, li_105, li_107, li_109, li_110, li_111, li_112, li_115, li_118, li_119, li_120, li_121, li_124, li_140, li_180, li_206, li_240, li_255, li_420, li_520, li_999, li_1000, li_1771, li_8240, li_9999, li_88200, li_1000000, li_2097151, li_31, nI_add, pk_mul, zz_sub, zz_an, nI_clamp, zz_leT, zz_leF, zz_ltT, zz_ltF, zz_eqF, zz_eqT, zz_m1, zz_m2, zz_m3, zz_m4, zz_m5, zz_m6, zz_ck, zz_bl, zz_b3, zz_b2, zz_shl, zz_bt0, zz_bt1, pk_div, Nat.zero_add, Nat.add_zero, if_true, if_false, reduceIte, Nat.mul_zero, zz_or0, zz_inT, zz_inF, pw, ce], ag_rf⟩
      · obtain ⟨k1, k2, k3, k4, k5⟩ := nx_ok hN hs q1
        obtain ⟨m, hm⟩ : ∃ m, num r' N = num r N + 1 + m := ⟨num r' N - (num r N + 1), by omega⟩
        obtain ⟨G', rfl⟩ : ∃ G', G = G' + m := ⟨G - m, by omega⟩
        have sk := pm_fitS hX hM LM hN e (nI c') m (num r N + 1) G' (by omega) (fun y g1 g2 => by unfold okb; rw [k4 y (by omega) (by omega), Bool.false_and])
        rw [sk, ← hm]
        obtain ⟨v, IC', z1, z2, z3⟩ := fit_both hX hN e LC LM hM R F G' r' c' (a4 + 1) I' (by omega) k1 (by omega) (by omega) (by omega) q3 (CX_63 hc q4)
        refine ⟨v, IC', ?_, z2, ag_tr q4 z3⟩
        rw [← z1]
        simp (disch := omega) only [fX11_fit_b62, zz_lt, li_0, li_1, li_2, li_3, li_4, li_5, li_6, li_7, li_8, li_9, li_10, li_11, li_12, li_15, li_16, li_20, li_21, li_24, li_25, li_26, li_32, li_33, li_38, li_40, li_41, li_42, li_43, li_45, li_47, li_48, li_57, li_58, li_59, li_60, li_61, li_62, li_63, li_74, li_75, li_84, li_91, li_93, li_98, li_100, li_103, li_105, li_107, li_109, li_110, li_111, li_112, li_115, li_118, li_119, li_120, li_121, li_124, li_140, li_180, li_206, li_240, li_255, li_420, li_520, li_999, li_1000, li_1771, li_8240, li_9999, li_88200, li_1000000, li_2097151, li_31, nI_add, pk_mul, zz_sub, zz_an, nI_clamp, zz_leT, zz_leF, zz_ltT, zz_ltF, zz_eqF, zz_eqT, zz_m1, zz_m2, zz_m3, zz_m4, zz_m5, zz_m6, zz_ck, zz_bl, zz_b3, zz_b2, zz_shl, zz_bt0, zz_bt1, pk_div, Nat.zero_add, Nat.add_zero, if_true, if_false, reduceIte, Nat.mul_zero, zz_or0, zz_inT, zz_inF, q2]
    cases cf : ftl X N (num r N) (X 0 0) 0
    · rw [cf] at ob ft
      obtain ⟨v, IC', z1, z2, z3⟩ := nxt c
      refine ⟨v, IC', ?_, ?_, z3⟩
      · rw [← z1]
        simp (disch := omega) only [fX11_fit_b26, fX11_fit_b26w, zz_lt, li_0, li_1, li_2, li_3, li_4, li_5, li_6, li_7, li_8, li_9, li_10, li_11, li_12, li_15, li_16, li_20, li_21, li_24, li_25, li_26, li_32, li_33, li_38, li_40, li_41, li_42, li_43, li_45, li_47, li_48, li_57, li_58, li_59, li_60, li_61, li_62, li_63, li_74, li_75, li_84, li_91, li_93, li_98, li_100, li_103, li_105, li_107, li_109, li_110, li_111, li_112, li_115, li_118, li_119, li_120, li_121, li_124, li_140, li_180, li_206, li_240, li_255, li_420, li_520, li_999, li_1000, li_1771, li_8240, li_9999, li_88200, li_1000000, li_2097151, li_31, nI_add, pk_mul, zz_sub, zz_an, nI_clamp, zz_leT, zz_leF, zz_ltT, zz_ltF, zz_eqF, zz_eqT, zz_m1, zz_m2, zz_m3, zz_m4, zz_m5, zz_m6, zz_ck, zz_bl, zz_b3, zz_b2, zz_shl, zz_bt0, zz_bt1, pk_div, Nat.zero_add, Nat.add_zero, if_true, if_false, reduceIte, Nat.mul_zero, zz_or0, zz_inT, zz_inF, ft, Bool.toNat_false]
      · rw [← z2]
        simp (disch := omega) only [fX12_fit_b21, fX12_fit_b21w, fX12_fit_b51, zz_lt, li_0, li_1, li_2, li_3, li_4, li_5, li_6, li_7, li_8, li_9, li_10, li_11, li_12, li_15, li_16, li_20, li_21, li_24, li_25, li_26, li_32, li_33, li_38, li_40, li_41, li_42, li_43, li_45, li_47, li_48, li_57, li_58, li_59, li_60, li_61, li_62, li_63, li_74, li_75, li_84, li_91, li_93, li_98, li_100, li_103, li_105, li_107, li_109, li_110, li_111, li_112, li_115, li_118, li_119, li_120, li_121, li_124, li_140, li_180, li_206, li_240, li_255, li_420, li_520, li_999, li_1000, li_1771, li_8240, li_9999, li_88200, li_1000000, li_2097151, li_31, nI_add, pk_mul, zz_sub, zz_an, nI_clamp, zz_leT, zz_leF, zz_ltT, zz_ltF, zz_eqF, zz_eqT, zz_m1, zz_m2, zz_m3, zz_m4, zz_m5, zz_m6, zz_ck, zz_bl, zz_b3, zz_b2, zz_shl, zz_bt0, zz_bt1, pk_div, Nat.zero_add, Nat.add_zero, if_true, if_false, reduceIte, Nat.mul_zero, zz_or0, zz_inT, zz_inF, pw, ob, Bool.toNat_false]
    · rw [cf] at ob ft
      by_cases ce : nI c = e
      · refine ⟨nI (num r N), IC, ?_, ?_, ag_rf⟩
        · simp (disch := omega) only [fX11_fit_b26, fX11_fit_b26w, zz_lt, li_0, li_1, li_2, li_3, li_4, li_5, li_6, li_7, li_8, li_9, li_10, li_11, li_12, li_15, li_16, li_20, li_21, li_24, li_25, li_26, li_32, li_33, li_38, li_40, li_41, li_42, li_43, li_45, li_47, li_48, li_57, li_58, li_59, li_60, li_61, li_62, li_63, li_74, li_75, li_84, li_91, li_93, li_98, li_100, li_103, li_105, li_107, li_109, li_110, li_111, li_112, li_115, li_118, li_119, li_120, li_121, li_124, li_140, li_180, li_206, li_240, li_255, li_420, li_520, li_999, li_1000, li_1771, li_8240, li_9999, li_88200, li_1000000, li_2097151, li_31, nI_add, pk_mul, zz_sub, zz_an, nI_clamp, zz_leT, zz_leF, zz_ltT, zz_ltF, zz_eqF, zz_eqT, zz_m1, zz_m2, zz_m3, zz_m4, zz_m5, zz_m6, zz_ck, zz_bl, zz_b3, zz_b2, zz_shl, zz_bt0, zz_bt1, pk_div, Nat.zero_add, Nat.add_zero, if_true, if_false, reduceIte, Nat.mul_zero, zz_or0, zz_inT, zz_inF, ft, ce, nm, Bool.toNat_true]
        · simp (disch := omega) only [fX12_fit_b21, fX12_fit_b21w, zz_lt, li_0, li_1, li_2, li_3, li_4, li_5, li_6, li_7, li_8, li_9, li_10, li_11, li_12, li_15, li_16, li_20, li_21, li_24, li_25, li_26, li_32, li_33, li_38, li_40, li_41, li_42, li_43, li_45, li_47, li_48, li_57, li_58, li_59, li_60, li_61, li_62, li_63, li_74, li_75, li_84, li_91, li_93, li_98, li_100, li_103, li_105, li_107, li_109, li_110, li_111, li_112, li_115, li_118, li_119, li_120, li_121, li_124, li_140, li_180, li_206, li_240, li_255, li_420, li_520, li_999, li_1000, li_1771, li_8240, li_9999, li_88200, li_1000000, li_2097151, li_31, nI_add, pk_mul, zz_sub, zz_an, nI_clamp, zz_leT, zz_leF, zz_ltT, zz_ltF, zz_eqF, zz_eqT, zz_m1, zz_m2, zz_m3, zz_m4, zz_m5, zz_m6, zz_ck, zz_bl, zz_b3, zz_b2, zz_shl, zz_bt0, zz_bt1, pk_div, Nat.zero_add, Nat.add_zero, if_true, if_false, reduceIte, Nat.mul_zero, zz_or0, zz_inT, zz_inF, pw, ob, ce, Bool.toNat_true]
      · obtain ⟨v, IC', z1, z2, z3⟩ := nxt (c + 1)
        refine ⟨v, IC', ?_, ?_, z3⟩
        · rw [← z1]
          simp (disch := omega) only [fX11_fit_b26, fX11_fit_b26w, zz_lt, li_0, li_1, li_2, li_3, li_4, li_5, li_6, li_7, li_8, li_9, li_10, li_11, li_12, li_15, li_16, li_20, li_21, li_24, li_25, li_26, li_32, li_33, li_38, li_40, li_41, li_42, li_43, li_45, li_47, li_48, li_57, li_58, li_59, li_60, li_61, li_62, li_63, li_74, li_75, li_84, li_91, li_93, li_98, li_100, li_103, li_105, li_107, li_109, li_110, li_111, li_112, li_115, li_118, li_119, li_120, li_121, li_124, li_140, li_180, li_206, li_240, li_255, li_420, li_520, li_999, li_1000, li_1771, li_8240, li_9999, li_88200, li_1000000, li_2097151, li_31, nI_add, pk_mul, zz_sub, zz_an, nI_clamp, zz_leT, zz_leF, zz_ltT, zz_ltF, zz_eqF, zz_eqT, zz_m1, zz_m2, zz_m3, zz_m4, zz_m5, zz_m6, zz_ck, zz_bl, zz_b3, zz_b2, zz_shl, zz_bt0, zz_bt1, pk_div, Nat.zero_add, Nat.add_zero, if_true, if_false, reduceIte, Nat.mul_zero, zz_or0, zz_inT, zz_inF, ft, ce, Bool.toNat_true]
        · rw [← z2]
          simp (disch := omega) only [fX12_fit_b21, fX12_fit_b21w, fX12_fit_b51, zz_lt, li_0, li_1, li_2, li_3, li_4, li_5, li_6, li_7, li_8, li_9, li_10, li_11, li_12, li_15, li_16, li_20, li_21, li_24, li_25, li_26, li_32, li_33, li_38, li_40, li_41, li_42, li_43, li_45, li_47, li_48, li_57, li_58, li_59, li_60, li_61, li_62, li_63, li_74, li_75, li_84, li_91, li_93, li_98, li_100, li_103, li_105, li_107, li_109, li_110, li_111, li_112, li_115, li_118, li_119, li_120, li_121, li_124, li_140, li_180, li_206, li_240, li_255, li_420, li_520, li_999, li_1000, li_1771, li_8240, li_9999, li_88200, li_1000000, li_2097151, li_31, nI_add, pk_mul, zz_sub, zz_an, nI_clamp, zz_leT, zz_leF, zz_ltT, zz_ltF, zz_eqF, zz_eqT, zz_m1, zz_m2, zz_m3, zz_m4, zz_m5, zz_m6, zz_ck, zz_bl, zz_b3, zz_b2, zz_shl, zz_bt0, zz_bt1, pk_div, Nat.zero_add, Nat.add_zero, if_true, if_false, reduceIte, Nat.mul_zero, zz_or0, zz_inT, zz_inF, pw, ob, ce, Bool.toNat_true]
theorem pc_begL (n d : Nat) (L : am_L) : ∀ (j i F : Nat) (I : am_I), i + j = 3 → j < F → (∀ t, t < i → I 63 t = nI 0) → ∃ I', fX4_beginRows_b2 n d F (nI i) I L = some (I', L) ∧ RW I' (fun _ => 0) ∧ am_ag s63 I I'
  | _, _, 0, _, _, f, _ => by omega
  | 0, i, F + 1, I, e, f, h => by
    exact ⟨I, by simp (disch := omega) only [fX4_beginRows_b2, fX4_beginRows_b2w, zz_lt, li_0, li_1, li_2, li_3, li_4, li_5, li_6, li_7, li_8, li_9, li_10, li_11, li_12, li_15, li_16, li_20, li_21, li_24, li_25, li_26, li_32, li_33, li_38, li_40, li_41, li_42, li_43, li_45, li_47, li_48, li_57, li_58, li_59, li_60, li_61, li_62, li_63, li_74, li_75, li_84, li_91, li_93, li_98, li_100, li_103, li_105, li_107, li_109, li_110, li_111, li_112, li_115, li_118, li_119, li_120, li_121, li_124, li_140, li_180, li_206, li_240, li_255, li_420, li_520, li_999, li_1000, li_1771, li_8240, li_9999, li_88200, li_1000000, li_2097151, li_31, nI_add, pk_mul, zz_sub, zz_an, nI_clamp, zz_leT, zz_leF, zz_ltT, zz_ltF, zz_eqF, zz_eqT, zz_m1, zz_m2, zz_m3, zz_m4, zz_m5, zz_m6, zz_ck, zz_bl, zz_b3, zz_b2, zz_shl, zz_bt0, zz_bt1, pk_div, Nat.zero_add, Nat.add_zero, if_true, if_false, reduceIte, Nat.mul_zero, zz_or0, zz_inT, zz_inF], fun t ht => ⟨h t (by omega), Nat.zero_le _⟩, ag_rf⟩
  | j + 1, i, F + 1, I, e, f, h => by
    obtain ⟨I', w1, w2, w3⟩ := pc_begL n d L j (i + 1) F (am_up I 63 i (nI 0)) (by omega) (by omega) (fun t ht => by
      by_cases c : t = i
      · rw [up_s c]
      · rw [up_n c]; exact h t (by omega))
    refine ⟨I', ?_, w2, ag_tr (ag_up ag_rf rfl) w3⟩
    rw [← w1]
    simp (disch := omega) only [fX4_beginRows_b2, fX4_beginRows_b2w, zz_lt, li_0, li_1, li_2, li_3, li_4, li_5, li_6, li_7, li_8, li_9, li_10, li_11, li_12, li_15, li_16, li_20, li_21, li_24, li_25, li_26, li_32, li_33, li_38, li_40, li_41, li_42, li_43, li_45, li_47, li_48, li_57, li_58, li_59, li_60, li_61, li_62, li_63, li_74, li_75, li_84, li_91, li_93, li_98, li_100, li_103, li_105, li_107, li_109, li_110, li_111, li_112, li_115, li_118, li_119, li_120, li_121, li_124, li_140, li_180, li_206, li_240, li_255, li_420, li_520, li_999, li_1000, li_1771, li_8240, li_9999, li_88200, li_1000000, li_2097151, li_31, nI_add, pk_mul, zz_sub, zz_an, nI_clamp, zz_leT, zz_leF, zz_ltT, zz_ltF, zz_eqF, zz_eqT, zz_m1, zz_m2, zz_m3, zz_m4, zz_m5, zz_m6, zz_ck, zz_bl, zz_b3, zz_b2, zz_shl, zz_bt0, zz_bt1, pk_div, Nat.zero_add, Nat.add_zero, if_true, if_false, reduceIte, Nat.mul_zero, zz_or0, zz_inT, zz_inF]
theorem pc_beg (n d : Nat) (hn : 8 < n) (L : am_L) (I : am_I) : ∃ I', fX4_beginRows n d I L = some (I', L) ∧ RW I' (fun _ => 0) ∧ am_ag s63 I I' := pc_begL n d L 3 0 n I (by omega) (by omega) (fun t ht => by omega)
theorem srt0 (N : Nat) : SRT N (fun _ => 0) := ⟨fun _ _ => Nat.zero_le _, fun _ => Nat.le_refl _, fun _ => Nat.le_refl _⟩
theorem num0 : ∀ N, num (fun _ => 0) N = 0
  | 0 => rfl
  | N + 1 => by unfold num; rw [num0 N]
theorem rem0 {N P : Nat} (hN : (N = 1 ∧ P = 21) ∨ (N = 2 ∧ P = 441) ∨ (N = 3 ∧ P = 9261)) : rem N (fun _ => 0) ≤ 1771 := by
  rcases hN with ⟨rfl, _⟩ | ⟨rfl, _⟩ | ⟨rfl, _⟩ <;> decide
theorem ag_63 {I I' : am_I} (a : am_ag s63 I I') : am_ag scrC I I' := ag_wk a (fun k j h => by
  unfold s63
  split
  · exact absurd h (by simp [scrC])
  · rfl)
/-- a size, or none -/
theorem size_of (e : Int32) : ((e < nI 1 ∨ nI 3 < e) ∧ (∀ I L, fX4_isSize am_N 1900 e I L = some (nI 0, I, L)) ∧ (∀ I L, fX12_in am_N 1900 e (nI 1) (nI 3) I L = some (nI 0, I, L))) ∨ ∃ N P : Nat, ((N = 1 ∧ P = 21) ∨ (N = 2 ∧ P = 441) ∨ (N = 3 ∧ P = 9261)) ∧ e = nI N ∧ (∀ I L, fX4_isSize am_N 1900 e I L = some (nI 1, I, L)) ∧ (∀ I L, fX12_in am_N 1900 e (nI 1) (nI 3) I L = some (nI 1, I, L)) := by
  have big : (e < nI 1 ∨ nI 3 < e) → ((e < nI 1 ∨ nI 3 < e) ∧ (∀ I L, fX4_isSize am_N 1900 e I L = some (nI 0, I, L)) ∧ (∀ I L, fX12_in am_N 1900 e (nI 1) (nI 3) I L = some (nI 0, I, L))) := fun he => by
    refine ⟨he, fun I L => ?_, fun I L => by rw [pm_in, if_pos he]⟩
    unfold fX4_isSize
    by_cases c : e < nI 1
    · rw [if_pos (show e < (1 : Int32) from c)]; rfl
    · rw [if_neg (show ¬ e < (1 : Int32) from c), if_pos (show (3 : Int32) < e from he.resolve_left c)]; rfl
  have sm : ∀ N : Nat, 1 ≤ N → N ≤ 3 → (∀ I L, fX4_isSize am_N 1900 (nI N) I L = some (nI 1, I, L)) ∧ (∀ I L, fX12_in am_N 1900 (nI N) (nI 1) (nI 3) I L = some (nI 1, I, L)) := fun N h1 h3 => by
    refine ⟨fun I L => ?_, fun I L => zz_inT (by omega)⟩
    simp (disch := omega) only [fX4_isSize, zz_lt, li_0, li_1, li_2, li_3, li_4, li_5, li_6, li_7, li_8, li_9, li_10, li_11, li_12, li_15, li_16, li_20, li_21, li_24, li_25, li_26, li_32, li_33, li_38, li_40, li_41, li_42, li_43, li_45, li_47, li_48, li_57, li_58, li_59, li_60, li_61, li_62, li_63, li_74, li_75, li_84, li_91, li_93, li_98, li_100, li_103, li_105, li_107, li_109, li_110, li_111, li_112, li_115, li_118, li_119, li_120, li_121, li_124, li_140, li_180, li_206, li_240, li_255, li_420, li_520, li_999, li_1000, li_1771, li_8240, li_9999, li_88200, li_1000000, li_2097151, li_31, nI_add, pk_mul, zz_sub, zz_an, nI_clamp, zz_leT, zz_leF, zz_ltT, zz_ltF, zz_eqF, zz_eqT, zz_m1, zz_m2, zz_m3, zz_m4, zz_m5, zz_m6, zz_ck, zz_bl, zz_b3, zz_b2, zz_shl, zz_bt0, zz_bt1, pk_div, Nat.zero_add, Nat.add_zero, if_true, if_false, reduceIte, Nat.mul_zero, zz_or0, zz_inT, zz_inF]
  rcases ix_of e (n := 4) (by omega) with z | ⟨N, hN, rfl⟩
  · left
    apply big
    rcases z with z | z
    · left
      have := Int32.lt_iff_toInt_lt.mp z
      rw [nI_toInt (by omega)] at this
      refine Int32.lt_iff_toInt_lt.mpr ?_
      rw [nI_toInt (by omega)]
      omega
    · right
      have := Int32.le_iff_toInt_le.mp z
      rw [nI_toInt (by omega)] at this
      refine Int32.lt_iff_toInt_lt.mpr ?_
      rw [nI_toInt (by omega)]
      omega
  · match N, hN with
    | 0, _ => exact Or.inl (big (Or.inl (by decide)))
    | 1, _ => exact Or.inr ⟨1, 21, Or.inl ⟨rfl, rfl⟩, rfl, sm 1 (by omega) (by omega)⟩
    | 2, _ => exact Or.inr ⟨2, 441, Or.inr (Or.inl ⟨rfl, rfl⟩), rfl, sm 2 (by omega) (by omega)⟩
    | 3, _ => exact Or.inr ⟨3, 9261, Or.inr (Or.inr ⟨rfl, rfl⟩), rfl, sm 3 (by omega) (by omega)⟩
theorem fit_gen {X : Nat → Nat → Nat} {IC IM : am_I} (hX : GX X) (hc : CX IC X) (hM : MX IM X) (LC LM : am_L) {N P : Nat} (hN : (N = 1 ∧ P = 21) ∨ (N = 2 ∧ P = 441) ∨ (N = 3 ∧ P = 9261)) (e : Int32) : ∃ v I1 IC', fX4_beginRows am_N 1900 IC LC = some (I1, LC) ∧ fX11_fit_b26 am_N 1900 am_N (nI N) e (nI 0) (nI 0) I1 LC = some (v, IC', LC) ∧ fX12_fit_b21 am_N 1900 am_N (nI N) e (nI 0) (nI 0) IM LM = some (v, IM, LM) ∧ am_ag s63 IC IC' := by
  obtain ⟨I1, w1, w2, w3⟩ := pc_beg am_N 1900 am_N8 LC IC
  have r0 := rem0 hN
  obtain ⟨v, IC', z1, z2, z3⟩ := fit_both hX hN e LC LM hM (rem N (fun _ => 0)) am_N am_N (fun _ => 0) 0 0 I1 rfl (srt0 N) (by unfold am_N; omega) (by rw [num0]; unfold am_N; omega) (by omega) w2 (CX_63 hc w3)
  rw [num0] at z2
  exact ⟨v, I1, IC', w1, z1, z2, ag_tr w3 z3⟩
theorem op_fit {X : Nat → Nat → Nat} {IC IM : am_I} (hX : GX X) (hc : CX IC X) (hM : MX IM X) (LC LM : am_L) (e0 e1 : Int32) : am_scr (fX11_fit am_N 1900 e0 e1 IC LC) (fX12_fit am_N 1900 e0 e1 IM LM) IC LC IM LM := by
  rcases size_of e0 with ⟨_, s1, s2⟩ | ⟨N, P, hN, rfl, s1, s2⟩
  · exact ⟨-nI 1, IC, IM, by simp (disch := omega) only [fX11_fit, zz_lt, li_0, li_1, li_2, li_3, li_4, li_5, li_6, li_7, li_8, li_9, li_10, li_11, li_12, li_15, li_16, li_20, li_21, li_24, li_25, li_26, li_32, li_33, li_38, li_40, li_41, li_42, li_43, li_45, li_47, li_48, li_57, li_58, li_59, li_60, li_61, li_62, li_63, li_74, li_75, li_84, li_91, li_93, li_98, li_100, li_103, li_105, li_107, li_109, li_110, li_111, li_112, li_115, li_118, li_119, li_120, li_121, li_124, li_140, li_180, li_206, li_240, li_255, li_420, li_520, li_999, li_1000, li_1771, li_8240, li_9999, li_88200, li_1000000, li_2097151, li_31, nI_add, pk_mul, zz_sub, zz_an, nI_clamp, zz_leT, zz_leF, zz_ltT, zz_ltF, zz_eqF, zz_eqT, zz_m1, zz_m2, zz_m3, zz_m4, zz_m5, zz_m6, zz_ck, zz_bl, zz_b3, zz_b2, zz_shl, zz_bt0, zz_bt1, pk_div, Nat.zero_add, Nat.add_zero, if_true, if_false, reduceIte, Nat.mul_zero, zz_or0, zz_inT, zz_inF, s1], by simp (disch := omega) only [fX12_fit, zz_lt, li_0, li_1, li_2, li_3, li_4, li_5, li_6, li_7, li_8, li_9, li_10, li_11, li_12, li_15, li_16, li_20, li_21, li_24, li_25, li_26, li_32, li_33, li_38, li_40, li_41, li_42, li_43, li_45, li_47, li_48, li_57, li_58, li_59, li_60, li_61, li_62, li_63, li_74, li_75, li_84, li_91, li_93, li_98, li_100, li_103, li_105, li_107, li_109, li_110, li_111, li_112, li_115, li_118, li_119, li_120, li_121, li_124, li_140, li_180, li_206, li_240, li_255, li_420, li_520, li_999, li_1000, li_1771, li_8240, li_9999, li_88200, li_1000000, li_2097151, li_31, nI_add, pk_mul, zz_sub, zz_an, nI_clamp, zz_leT, zz_leF, zz_ltT, zz_ltF, zz_eqF, zz_eqT, zz_m1, zz_m2, zz_m3, zz_m4, zz_m5, zz_m6, zz_ck, zz_bl, zz_b3, zz_b2, zz_shl, zz_bt0, zz_bt1, pk_div, Nat.zero_add, Nat.add_zero, if_true, if_false, reduceIte, Nat.mul_zero, zz_or0, zz_inT, zz_inF, s2], ag_rf, ag_rf⟩
  · by_cases c : -nI 1 ≤ e1
    · obtain ⟨v, I1, IC', w1, w2, w3, w4⟩ := fit_gen hX hc hM LC LM hN e1
      exact ⟨v, IC', IM, by simp (disch := omega) only [fX11_fit, zz_lt, li_0, li_1, li_2, li_3, li_4, li_5, li_6, li_7, li_8, li_9, li_10, li_11, li_12, li_15, li_16, li_20, li_21, li_24, li_25, li_26, li_32, li_33, li_38, li_40, li_41, li_42, li_43, li_45, li_47, li_48, li_57, li_58, li_59, li_60, li_61, li_62, li_63, li_74, li_75, li_84, li_91, li_93, li_98, li_100, li_103, li_105, li_107, li_109, li_110, li_111, li_112, li_115, li_118, li_119, li_120, li_121, li_124, li_140, li_180, li_206, li_240, li_255, li_420, li_520, li_999, li_1000, li_1771, li_8240, li_9999, li_88200, li_1000000, li_2097151, li_31, nI_add, pk_mul, zz_sub, zz_an, nI_clamp, zz_leT, zz_leF, zz_ltT, zz_ltF, zz_eqF, zz_eqT, zz_m1, zz_m2, zz_m3, zz_m4, zz_m5, zz_m6, zz_ck, zz_bl, zz_b3, zz_b2, zz_shl, zz_bt0, zz_bt1, pk_div, Nat.zero_add, Nat.add_zero, if_true, if_false, reduceIte, Nat.mul_zero, zz_or0, zz_inT, zz_inF, s1, c, w1, w2], by simp (disch := omega) only [fX12_fit, zz_lt, li_0, li_1, li_2, li_3, li_4, li_5, li_6, li_7, li_8, li_9, li_10, li_11, li_12, li_15, li_16, li_20, li_21, li_24, li_25, li_26, li_32, li_33, li_38, li_40, li_41, li_42, li_43, li_45, li_47, li_48, li_57, li_58, li_59, li_60, li_61, li_62, li_63, li_74, li_75, li_84, li_91, li_93, li_98, li_100, li_103, li_105, li_107, li_109, li_110, li_111, li_112, li_115, li_118, li_119, li_120, li_121, li_124, li_140, li_180, li_206, li_240, li_255, li_420, li_520, li_999, li_1000, li_1771, li_8240, li_9999, li_88200, li_1000000, li_2097151, li_31, nI_add, pk_mul, zz_sub, zz_an, nI_clamp, zz_leT, zz_leF, zz_ltT, zz_ltF, zz_eqF, zz_eqT, zz_m1, zz_m2, zz_m3, zz_m4, zz_m5, zz_m6, zz_ck, zz_bl, zz_b3, zz_b2, zz_shl, zz_bt0, zz_bt1, pk_div, Nat.zero_add, Nat.add_zero, if_true, if_false, reduceIte, Nat.mul_zero, zz_or0, zz_inT, zz_inF, s2, c, w3], ag_63 w4, ag_rf⟩
    · exact ⟨-nI 1, IC, IM, by simp (disch := omega) only [fX11_fit, zz_lt, li_0, li_1, li_2, li_3, li_4, li_5, li_6, li_7, li_8, li_9, li_10, li_11, li_12, li_15, li_16, li_20, li_21, li_24, li_25, li_26, li_32, li_33, li_38, li_40, li_41, li_42, li_43, li_45, li_47, li_48, li_57, li_58, li_59, li_60, li_61, li_62, li_63, li_74, li_75, li_84, li_91, li_93, li_98, li_100, li_103, li_105, li_107, li_109, li_110, li_111, li_112, li_115, li_118, li_119, li_120, li_121, li_124, li_140, li_180, li_206, li_240, li_255, li_420, li_520, li_999, li_1000, li_1771, li_8240, li_9999, li_88200, li_1000000, li_2097151, li_31, nI_add, pk_mul, zz_sub, zz_an, nI_clamp, zz_leT, zz_leF, zz_ltT, zz_ltF, zz_eqF, zz_eqT, zz_m1, zz_m2, zz_m3, zz_m4, zz_m5, zz_m6, zz_ck, zz_bl, zz_b3, zz_b2, zz_shl, zz_bt0, zz_bt1, pk_div, Nat.zero_add, Nat.add_zero, if_true, if_false, reduceIte, Nat.mul_zero, zz_or0, zz_inT, zz_inF, s1, c], by simp (disch := omega) only [fX12_fit, zz_lt, li_0, li_1, li_2, li_3, li_4, li_5, li_6, li_7, li_8, li_9, li_10, li_11, li_12, li_15, li_16, li_20, li_21, li_24, li_25, li_26, li_32, li_33, li_38, li_40, li_41, li_42, li_43, li_45, li_47, li_48, li_57, li_58, li_59, li_60, li_61, li_62, li_63, li_74, li_75, li_84, li_91, li_93, li_98, li_100, li_103, li_105, li_107, li_109, li_110, li_111, li_112, li_115, li_118, li_119, li_120, li_121, li_124, li_140, li_180, li_206, li_240, li_255, li_420, li_520, li_999, li_1000, li_1771, li_8240, li_9999, li_88200, li_1000000, li_2097151, li_31, nI_add, pk_mul, zz_sub, zz_an, nI_clamp, zz_leT, zz_leF, zz_ltT, zz_ltF, zz_eqF, zz_eqT, zz_m1, zz_m2, zz_m3, zz_m4, zz_m5, zz_m6, zz_ck, zz_bl, zz_b3, zz_b2, zz_shl, zz_bt0, zz_bt1, pk_div, Nat.zero_add, Nat.add_zero, if_true, if_false, reduceIte, Nat.mul_zero, zz_or0, zz_inT, zz_inF, s2, c], ag_rf, ag_rf⟩
