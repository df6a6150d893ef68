/-! PURE: champion and victors. -/
def Wv (g : Nat → Nat → Nat) (s m X Y : Nat) : Nat := if g 1 m = s ∧ 0 < g 9 m then (if g 3 m < X then tot g s m 6 else if g 3 m = X then tot g s m Y else 0) else 0
theorem Wv_6 {g : Nat → Nat → Nat} (hg : GW g) (s m X : Nat) : Wv g s m X 6 = Wv g s m (X + 1) 1 := by
  unfold Wv
  by_cases c : g 1 m = s ∧ 0 < g 9 m
  · rw [if_pos c, if_pos c, tot_1 hg]
    rcases Nat.lt_trichotomy (g 3 m) X with z | z | z
    · rw [if_pos z, if_pos (by omega)]
    · rw [if_neg (by omega), if_pos z, if_pos (by omega)]
    · rw [if_neg (by omega), if_neg (by omega), if_neg (by omega)]
      split <;> rfl
  · rw [if_neg c, if_neg c]
theorem Wv_le {g : Nat → Nat → Nat} (hg : GW g) (s m X Y : Nat) : Wv g s m X Y ≤ 8 := by
  have h1 := tot_le hg s m 6
  have h2 := tot_le hg s m Y
  unfold Wv
  split
  · split
    · exact h1
    · split
      · exact h2
      · omega
  · omega
theorem rDu_66 {I : am_I} {g : Nat → Nat → Nat} (h : rDu I g) (k : Nat) (v : Int32) : rDu (am_up I 66 k v) g := by
  obtain ⟨h1, h2, h3⟩ := h
  have e : ∀ q, q ≠ 66 → am_up I 66 k v q = I q := fun q z => am_up_ne z
  refine ⟨DL_k h1 (e 52 (by omega)) (e 53 (by omega)) (e 54 (by omega)) (e 55 (by omega)), SO_k h2 (e 54 (by omega)), ?_⟩
  rw [e 51 (by omega)]
  rcases h3 with h3 | ⟨x, y, G, O, q1, q2, r8, r9, r10, r11, r12, r13, r14⟩
  · exact Or.inl h3
  · refine Or.inr ⟨x, y, G, O, q1, q2, by rw [e 51 (by omega)]; exact r8, by rw [e 51 (by omega)]; exact r9, by rw [e 51 (by omega)]; exact r10, by rw [e 51 (by omega)]; exact r11, r12, r13, ?_⟩
    unfold TF at *
    rw [e 67 (by omega)]
    exact r14
theorem Dq_66 {I I' : am_I} (a : am_ag sDq I I') (k : Nat) (v : Int32) : am_ag sDq I (am_up I' 66 k v) := ag_up a (by unfold sDq; simp)
theorem Dd_66 {I I' : am_I} (a : am_ag sDd I I') (k : Nat) : I' 66 k = I 66 k := a 66 k rfl
theorem cw65 {g : Nat → Nat → Nat} (hg : GW g) (n d : Nat) (hn : 100 < n) (L : am_L) (k3 : Int32 → Int32 → Int32 → Int32 → am_I → am_L → Option (am_I × am_L)) {s X Y m c : Nat} (hs : s < 2) (hY : Y ≤ 5) (hm : m < g 0 0) (h1 : g 1 m = s) (h9 : 1 ≤ g 9 m) (hc : c ≤ 8) : ∀ (j o F : Nat) (I : am_I), o + j = g 0 0 → j < F → CS I g → rDu I g → I 66 m = nI (c + par g s m Y o) → ∃ I', fX11_countWinsOfSpeeds_t_b65 n d k3 F (nI s) (nI X) (nI Y) (nI m) (nI 1) (nI o) I L = k3 (nI s) (nI X) (nI Y) (nI (m + 1)) I' L ∧ rDu I' g ∧ am_ag sDq I I' ∧ (∀ k, k ≠ m → I' 66 k = I 66 k) ∧ I' 66 m = nI (c + par g s m Y (g 0 0))
  | _, _, 0, _, _, f, _, _, _ => by omega
  | 0, o, F + 1, I, e, f, h, hR, h66 => by
    have gm := hg.1
    have e1 : o = g 0 0 := by omega
    subst e1
    have hmn := h.1
    refine ⟨I, ?_, hR, ag_rf, fun _ _ => rfl, h66⟩
    simp (disch := omega) only [fX11_countWinsOfSpeeds_t_b65, fX11_countWinsOfSpeeds_t_b65w, fX11_countWinsOfSpeeds_t_b173, zz_lt, li_0, li_1, li_2, li_3, li_4, li_5, li_6, li_7, li_8, li_9, li_10, li_11, li_12, li_15, li_16, li_20, li_21, li_24, li_25, li_26, li_32, li_33, li_38, li_40, li_41, li_42, li_43, li_45, li_47, li_48, li_57, li_58, li_59, li_60, li_61, li_62, li_63, li_74, li_75, li_84, li_91, li_93, li_98, li_100, li_103, li_105, li_107, li_109, li_110, li_111, li_112, li_115, li_118, li_119, li_120, li_121, li_124, li_140, li_180, li_206, li_240, li_255, li_420, li_520, li_999, li_1000, li_1771, li_8240, li_9999, li_88200, li_1000000, li_2097151, li_31, nI_add, pk_mul, zz_sub, zz_an, nI_clamp, zz_leT, zz_leF, zz_ltT, zz_ltF, zz_eqF, zz_eqT, zz_m1, zz_m2, zz_m3, zz_m4, zz_m5, zz_m6, zz_ck, zz_bl, zz_b3, zz_b2, zz_shl, zz_bt0, zz_bt1, pk_div, Nat.zero_add, Nat.add_zero, if_true, if_false, reduceIte, Nat.mul_zero, zz_or0, zz_inT, zz_inF, hmn]
  | j + 1, o, F + 1, I, e, f, h, hR, h66 => by
    have gm := hg.1
    have hmn := h.1
    have o1 : o < g 0 0 := by omega
    have t0 := h.2.2.2.2.2.1 o o1
    have t2 := h.2.2.2.2.2.2.2.1 o o1
    have b1 := hg.2.2.2.2.2.1 o o1
    have cg := pc_canGo hg h n d L o1
    have nx : par g s m Y (o + 1) = par g s m Y o + (if g 1 o ≠ s ∧ 0 < g 9 o ∧ g 3 o = Y ∧ wnn g m o = true then 1 else 0) := rfl
    have ple := par_le g s m Y o
    have skip : ¬ (g 1 o ≠ s ∧ 0 < g 9 o ∧ g 3 o = Y) → fX11_countWinsOfSpeeds_t_b65 n d k3 (F + 1) (nI s) (nI X) (nI Y) (nI m) (nI 1) (nI o) I L = fX11_countWinsOfSpeeds_t_b65 n d k3 F (nI s) (nI X) (nI Y) (nI m) (nI 1) (nI (o + 1)) I L → ∃ I', fX11_countWinsOfSpeeds_t_b65 n d k3 (F + 1) (nI s) (nI X) (nI Y) (nI m) (nI 1) (nI o) I L = k3 (nI s) (nI X) (nI Y) (nI (m + 1)) I' L ∧ rDu I' g ∧ am_ag sDq I I' ∧ (∀ k, k ≠ m → I' 66 k = I 66 k) ∧ I' 66 m = nI (c + par g s m Y (g 0 0)) := fun hn' he => by
      rw [if_neg (fun q => hn' ⟨q.1, q.2.1, q.2.2.1⟩), Nat.add_zero] at nx
      obtain ⟨I', w1, w2⟩ := cw65 hg n d hn L k3 (X := X) hs hY hm h1 h9 hc j (o + 1) F I (by omega) (by omega) h hR (by rw [nx]; exact h66)
      exact ⟨I', he.trans w1, w2⟩
    by_cases c1 : g 1 o = s
    · refine skip (fun q => q.1 c1) ?_
      simp (disch := omega) only [fX11_countWinsOfSpeeds_t_b65, fX11_countWinsOfSpeeds_t_b65w, fX11_countWinsOfSpeeds_t_b167, zz_lt, li_0, li_1, li_2, li_3, li_4, li_5, li_6, li_7, li_8, li_9, li_10, li_11, li_12, li_15, li_16, li_20, li_21, li_24, li_25, li_26, li_32, li_33, li_38, li_40, li_41, li_42, li_43, li_45, li_47, li_48, li_57, li_58, li_59, li_60, li_61, li_62, li_63, li_74, li_75, li_84, li_91, li_93, li_98, li_100, li_103, li_105, li_107, li_109, li_110, li_111, li_112, li_115, li_118, li_119, li_120, li_121, li_124, li_140, li_180, li_206, li_240, li_255, li_420, li_520, li_999, li_1000, li_1771, li_8240, li_9999, li_88200, li_1000000, li_2097151, li_31, nI_add, pk_mul, zz_sub, zz_an, nI_clamp, zz_leT, zz_leF, zz_ltT, zz_ltF, zz_eqF, zz_eqT, zz_m1, zz_m2, zz_m3, zz_m4, zz_m5, zz_m6, zz_ck, zz_bl, zz_b3, zz_b2, zz_shl, zz_bt0, zz_bt1, pk_div, Nat.zero_add, Nat.add_zero, if_true, if_false, reduceIte, Nat.mul_zero, zz_or0, zz_inT, zz_inF, hmn, t0]
    · by_cases c2 : g 3 o = Y
      · by_cases c3 : 0 < g 9 o
        · rw [if_pos c3] at cg
          obtain ⟨I1, G, O, v1, v2, v3, v4, v5, v6, v7⟩ := pc_ready hg n d hn h hR L hm o1
          have c' := CS_Dq h (ag_Dq v7)
          have p1 := pc_placeOf hg n d c' v2 L hm
          have p2 := pc_placeOf hg n d c' v2 L o1
          have rr1 := hg.2.2.2.2.2.2.2.2.1 m hm
          have rr2 := hg.2.2.2.2.2.2.2.2.1 o o1
          have q1 := pc_won hg n d L v4 ⟨h9, rr1.1⟩ rr1.2.1 ⟨c3, rr2.1⟩ rr2.2.1 v5 v6
          have wd : wnn g m o = (DU g (g 3 m) (g 3 o) (g 9 m) (g 10 m) (g 9 o) (g 10 o)).1.1 := rfl
          rw [← wd] at q1
          have rd := rDu_of hg hm o1 v2 v3 v4
          have i66 : I1 66 m = nI (c + par g s m Y o) := by rw [Dd_66 v7]; exact h66
          have vl : c + par g s m Y o + (wnn g m o).toNat = c + par g s m Y (o + 1) := by
            rw [nx]
            cases cw : wnn g m o
            · rw [if_neg (fun q => Bool.noConfusion q.2.2.2)]; rfl
            · rw [if_pos ⟨c1, c3, c2, rfl⟩]; rfl
          obtain ⟨I', w1, w2, w3, w4, w5⟩ := cw65 hg n d hn L k3 (X := X) hs hY hm h1 h9 hc j (o + 1) F (am_up I1 66 m (nI (c + par g s m Y (o + 1)))) (by omega) (by omega) (CS_Dq h (Dq_66 (ag_Dq v7) _ _)) (rDu_66 rd _ _) (up_s rfl)
          refine ⟨I', ?_, w2, ag_tr (Dq_66 (ag_Dq v7) _ _) w3, fun k hk => by rw [w4 k hk, up_n hk, Dd_66 v7], w5⟩
          rw [← w1, ← vl]
          cases cw : wnn g m o
          · rw [cw] at q1
            simp (disch := omega) only [fX11_countWinsOfSpeeds_t_b65, fX11_countWinsOfSpeeds_t_b65w, fX11_countWinsOfSpeeds_t_b130, fX11_countWinsOfSpeeds_t_b157, fX11_countWinsOfSpeeds_t_b165, fX11_countWinsOfSpeeds_t_b167, zz_lt, li_0, li_1, li_2, li_3, li_4, li_5, li_6, li_7, li_8, li_9, li_10, li_11, li_12, li_15, li_16, li_20, li_21, li_24, li_25, li_26, li_32, li_33, li_38, li_40, li_41, li_42, li_43, li_45, li_47, li_48, li_57, li_58, li_59, li_60, li_61, li_62, li_63, li_74, li_75, li_84, li_91, li_93, li_98, li_100, li_103, li_105, li_107, li_109, li_110, li_111, li_112, li_115, li_118, li_119, li_120, li_121, li_124, li_140, li_180, li_206, li_240, li_255, li_420, li_520, li_999, li_1000, li_1771, li_8240, li_9999, li_88200, li_1000000, li_2097151, li_31, nI_add, pk_mul, zz_sub, zz_an, nI_clamp, zz_leT, zz_leF, zz_ltT, zz_ltF, zz_eqF, zz_eqT, zz_m1, zz_m2, zz_m3, zz_m4, zz_m5, zz_m6, zz_ck, zz_bl, zz_b3, zz_b2, zz_shl, zz_bt0, zz_bt1, pk_div, Nat.zero_add, Nat.add_zero, if_true, if_false, reduceIte, Nat.mul_zero, zz_or0, zz_inT, zz_inF, hmn, t0, t2, cg, v1, i66, p1, p2, q1, Bool.toNat_false]
          · rw [cw] at q1
            simp (disch := omega) only [fX11_countWinsOfSpeeds_t_b65, fX11_countWinsOfSpeeds_t_b65w, fX11_countWinsOfSpeeds_t_b130, fX11_countWinsOfSpeeds_t_b157, fX11_countWinsOfSpeeds_t_b165, fX11_countWinsOfSpeeds_t_b167, zz_lt, li_0, li_1, li_2, li_3, li_4, li_5, li_6, li_7, li_8, li_9, li_10, li_11, li_12, li_15, li_16, li_20, li_21, li_24, li_25, li_26, li_32, li_33, li_38, li_40, li_41, li_42, li_43, li_45, li_47, li_48, li_57, li_58, li_59, li_60, li_61, li_62, li_63, li_74, li_75, li_84, li_91, li_93, li_98, li_100, li_103, li_105, li_107, li_109, li_110, li_111, li_112, li_115, li_118, li_119, li_120, li_121, li_124, li_140, li_180, li_206, li_240, li_255, li_420, li_520, li_999, li_1000, li_1771, li_8240, li_9999, li_88200, li_1000000, li_2097151, li_31, nI_add, pk_mul, zz_sub, zz_an, nI_clamp, zz_leT, zz_leF, zz_ltT, zz_ltF, zz_eqF, zz_eqT, zz_m1, zz_m2, zz_m3, zz_m4, zz_m5, zz_m6, zz_ck, zz_bl, zz_b3, zz_b2, zz_shl, zz_bt0, zz_bt1, pk_div, Nat.zero_add, Nat.add_zero, if_true, if_false, reduceIte, Nat.mul_zero, zz_or0, zz_inT, zz_inF, hmn, t0, t2, cg, v1, i66, p1, p2, q1, Bool.toNat_true]
        · rw [if_neg c3] at cg
          refine skip (fun q => c3 q.2.1) ?_
          simp (disch := omega) only [fX11_countWinsOfSpeeds_t_b65, fX11_countWinsOfSpeeds_t_b65w, fX11_countWinsOfSpeeds_t_b167, zz_lt, li_0, li_1, li_2, li_3, li_4, li_5, li_6, li_7, li_8, li_9, li_10, li_11, li_12, li_15, li_16, li_20, li_21, li_24, li_25, li_26, li_32, li_33, li_38, li_40, li_41, li_42, li_43, li_45, li_47, li_48, li_57, li_58, li_59, li_60, li_61, li_62, li_63, li_74, li_75, li_84, li_91, li_93, li_98, li_100, li_103, li_105, li_107, li_109, li_110, li_111, li_112, li_115, li_118, li_119, li_120, li_121, li_124, li_140, li_180, li_206, li_240, li_255, li_420, li_520, li_999, li_1000, li_1771, li_8240, li_9999, li_88200, li_1000000, li_2097151, li_31, nI_add, pk_mul, zz_sub, zz_an, nI_clamp, zz_leT, zz_leF, zz_ltT, zz_ltF, zz_eqF, zz_eqT, zz_m1, zz_m2, zz_m3, zz_m4, zz_m5, zz_m6, zz_ck, zz_bl, zz_b3, zz_b2, zz_shl, zz_bt0, zz_bt1, pk_div, Nat.zero_add, Nat.add_zero, if_true, if_false, reduceIte, Nat.mul_zero, zz_or0, zz_inT, zz_inF, hmn, t0, t2, cg]
      · refine skip (fun q => c2 q.2.2) ?_
        simp (disch := omega) only [fX11_countWinsOfSpeeds_t_b65, fX11_countWinsOfSpeeds_t_b65w, fX11_countWinsOfSpeeds_t_b167, zz_lt, li_0, li_1, li_2, li_3, li_4, li_5, li_6, li_7, li_8, li_9, li_10, li_11, li_12, li_15, li_16, li_20, li_21, li_24, li_25, li_26, li_32, li_33, li_38, li_40, li_41, li_42, li_43, li_45, li_47, li_48, li_57, li_58, li_59, li_60, li_61, li_62, li_63, li_74, li_75, li_84, li_91, li_93, li_98, li_100, li_103, li_105, li_107, li_109, li_110, li_111, li_112, li_115, li_118, li_119, li_120, li_121, li_124, li_140, li_180, li_206, li_240, li_255, li_420, li_520, li_999, li_1000, li_1771, li_8240, li_9999, li_88200, li_1000000, li_2097151, li_31, nI_add, pk_mul, zz_sub, zz_an, nI_clamp, zz_leT, zz_leF, zz_ltT, zz_ltF, zz_eqF, zz_eqT, zz_m1, zz_m2, zz_m3, zz_m4, zz_m5, zz_m6, zz_ck, zz_bl, zz_b3, zz_b2, zz_shl, zz_bt0, zz_bt1, pk_div, Nat.zero_add, Nat.add_zero, if_true, if_false, reduceIte, Nat.mul_zero, zz_or0, zz_inT, zz_inF, hmn, t0, t2]
theorem cw3 {g : Nat → Nat → Nat} (hg : GW g) (n d : Nat) (hn : 100 < n) (L : am_L) {s X Y : Nat} (hs : s < 2) (hX : X ≤ 5) (hY : Y ≤ 5) : ∀ (j i F : Nat) (I : am_I), i + j = g 0 0 → j < F → CS I g → rDu I g → (∀ m, m < g 0 0 → I 66 m = nI (if m < i then Wv g s m X (Y + 1) else Wv g s m X Y)) → ∃ I', fX11_countWinsOfSpeeds_t_b3 n d F (nI s) (nI X) (nI Y) (nI i) I L = some (I', L) ∧ rDu I' g ∧ am_ag sDq I I' ∧ (∀ m, m < g 0 0 → I' 66 m = nI (Wv g s m X (Y + 1)))
  | _, _, 0, _, _, f, _, _, _ => by omega
  | 0, i, F + 1, I, e, f, h, hR, h66 => by
    have gm := hg.1
    have e1 : i = g 0 0 := by omega
    subst e1
    have hmn := h.1
    refine ⟨I, ?_, hR, ag_rf, fun m hm => by rw [h66 m hm, if_pos hm]⟩
    simp (disch := omega) only [fX11_countWinsOfSpeeds_t_b3, fX11_countWinsOfSpeeds_t_b3w, zz_lt, li_0, li_1, li_2, li_3, li_4, li_5, li_6, li_7, li_8, li_9, li_10, li_11, li_12, li_15, li_16, li_20, li_21, li_24, li_25, li_26, li_32, li_33, li_38, li_40, li_41, li_42, li_43, li_45, li_47, li_48, li_57, li_58, li_59, li_60, li_61, li_62, li_63, li_74, li_75, li_84, li_91, li_93, li_98, li_100, li_103, li_105, li_107, li_109, li_110, li_111, li_112, li_115, li_118, li_119, li_120, li_121, li_124, li_140, li_180, li_206, li_240, li_255, li_420, li_520, li_999, li_1000, li_1771, li_8240, li_9999, li_88200, li_1000000, li_2097151, li_31, nI_add, pk_mul, zz_sub, zz_an, nI_clamp, zz_leT, zz_leF, zz_ltT, zz_ltF, zz_eqF, zz_eqT, zz_m1, zz_m2, zz_m3, zz_m4, zz_m5, zz_m6, zz_ck, zz_bl, zz_b3, zz_b2, zz_shl, zz_bt0, zz_bt1, pk_div, Nat.zero_add, Nat.add_zero, if_true, if_false, reduceIte, Nat.mul_zero, zz_or0, zz_inT, zz_inF, hmn]
  | j + 1, i, F + 1, I, e, f, h, hR, h66 => by
    have gm := hg.1
    have hmn := h.1
    have i1 : i < g 0 0 := by omega
    have t0 := h.2.2.2.2.2.1 i i1
    have t2 := h.2.2.2.2.2.2.2.1 i i1
    have b1 := hg.2.2.2.2.2.1 i i1
    have cg := pc_canGo hg h n d L i1
    have no : ∀ I, CS I g → fX11_countWinsOfSpeeds_t_b59 n d (fX11_countWinsOfSpeeds_t_b3 n d F) (nI s) (nI X) (nI Y) (nI i) I L = fX11_countWinsOfSpeeds_t_b3 n d F (nI s) (nI X) (nI Y) (nI (i + 1)) I L := fun I hI => by
      obtain ⟨n', rfl⟩ : ∃ n', n = n' + 1 := ⟨n - 1, by omega⟩
      simp (disch := omega) only [fX11_countWinsOfSpeeds_t_b59, fX11_countWinsOfSpeeds_t_b60, fX11_countWinsOfSpeeds_t_b65, fX11_countWinsOfSpeeds_t_b65w, fX11_countWinsOfSpeeds_t_b173, zz_lt, li_0, li_1, li_2, li_3, li_4, li_5, li_6, li_7, li_8, li_9, li_10, li_11, li_12, li_15, li_16, li_20, li_21, li_24, li_25, li_26, li_32, li_33, li_38, li_40, li_41, li_42, li_43, li_45, li_47, li_48, li_57, li_58, li_59, li_60, li_61, li_62, li_63, li_74, li_75, li_84, li_91, li_93, li_98, li_100, li_103, li_105, li_107, li_109, li_110, li_111, li_112, li_115, li_118, li_119, li_120, li_121, li_124, li_140, li_180, li_206, li_240, li_255, li_420, li_520, li_999, li_1000, li_1771, li_8240, li_9999, li_88200, li_1000000, li_2097151, li_31, nI_add, pk_mul, zz_sub, zz_an, nI_clamp, zz_leT, zz_leF, zz_ltT, zz_ltF, zz_eqF, zz_eqT, zz_m1, zz_m2, zz_m3, zz_m4, zz_m5, zz_m6, zz_ck, zz_bl, zz_b3, zz_b2, zz_shl, zz_bt0, zz_bt1, pk_div, Nat.zero_add, Nat.add_zero, if_true, if_false, reduceIte, Nat.mul_zero, zz_or0, zz_inT, zz_inF]
    have skip : ¬ (g 1 i = s ∧ g 3 i = X ∧ 0 < g 9 i) → fX11_countWinsOfSpeeds_t_b3 n d (F + 1) (nI s) (nI X) (nI Y) (nI i) I L = fX11_countWinsOfSpeeds_t_b3 n d F (nI s) (nI X) (nI Y) (nI (i + 1)) I L → ∃ I', fX11_countWinsOfSpeeds_t_b3 n d (F + 1) (nI s) (nI X) (nI Y) (nI i) I L = some (I', L) ∧ rDu I' g ∧ am_ag sDq I I' ∧ (∀ m, m < g 0 0 → I' 66 m = nI (Wv g s m X (Y + 1))) := fun hne he => by
      have ew : Wv g s i X (Y + 1) = Wv g s i X Y := by
        unfold Wv
        by_cases c : g 1 i = s ∧ 0 < g 9 i
        · rw [if_pos c, if_pos c, if_neg (c := g 3 i = X) (fun z => hne ⟨c.1, z, c.2⟩), if_neg (c := g 3 i = X) (fun z => hne ⟨c.1, z, c.2⟩)]
        · rw [if_neg c, if_neg c]
      obtain ⟨I', w1, w2⟩ := cw3 hg n d hn L hs hX hY j (i + 1) F I (by omega) (by omega) h hR (fun m hm => by
        rw [h66 m hm]
        by_cases c : m = i
        · subst c; rw [if_neg (by omega), if_pos (by omega), ew]
        · by_cases c2 : m < i
          · rw [if_pos c2, if_pos (by omega)]
          · rw [if_neg c2, if_neg (by omega)])
      exact ⟨I', he.trans w1, w2⟩
    have noI := no I h
    by_cases c1 : g 1 i = s
    · by_cases c2 : g 3 i = X
      · by_cases c3 : 0 < g 9 i
        · rw [if_pos c3] at cg
          have v0 : Wv g s i X Y = tot g s i Y := by unfold Wv; rw [if_pos ⟨c1, c3⟩, if_neg (by omega), if_pos c2]
          have v1 : Wv g s i X (Y + 1) = tot g s i (Y + 1) := by unfold Wv; rw [if_pos ⟨c1, c3⟩, if_neg (by omega), if_pos c2]
          have h6i := h66 i i1
          rw [if_neg (by omega), v0] at h6i
          obtain ⟨I1, w1, w2, w3, w4, w5⟩ := cw65 hg n d hn L (fX11_countWinsOfSpeeds_t_b3 n d F) (X := X) hs hY i1 c1 c3 (tot_le hg s i Y) (g 0 0) 0 n I (by omega) (by omega) h hR h6i
          rw [← tot_s] at w5
          obtain ⟨I', z1, z2, z3, z4⟩ := cw3 hg n d hn L hs hX hY j (i + 1) F I1 (by omega) (by omega) (CS_Dq h w3) w2 (fun m hm => by
            by_cases c : m = i
            · subst c; rw [if_pos (by omega), v1]; exact w5
            · rw [w4 m c, h66 m hm]
              by_cases c2 : m < i
              · rw [if_pos c2, if_pos (by omega)]
              · rw [if_neg c2, if_neg (by omega)])
          refine ⟨I', ?_, z2, ag_tr w3 z3, z4⟩
          rw [← z1, ← w1]
          simp (disch := omega) only [fX11_countWinsOfSpeeds_t_b3, fX11_countWinsOfSpeeds_t_b3w, fX11_countWinsOfSpeeds_t_b60, zz_lt, li_0, li_1, li_2, li_3, li_4, li_5, li_6, li_7, li_8, li_9, li_10, li_11, li_12, li_15, li_16, li_20, li_21, li_24, li_25, li_26, li_32, li_33, li_38, li_40, li_41, li_42, li_43, li_45, li_47, li_48, li_57, li_58, li_59, li_60, li_61, li_62, li_63, li_74, li_75, li_84, li_91, li_93, li_98, li_100, li_103, li_105, li_107, li_109, li_110, li_111, li_112, li_115, li_118, li_119, li_120, li_121, li_124, li_140, li_180, li_206, li_240, li_255, li_420, li_520, li_999, li_1000, li_1771, li_8240, li_9999, li_88200, li_1000000, li_2097151, li_31, nI_add, pk_mul, zz_sub, zz_an, nI_clamp, zz_leT, zz_leF, zz_ltT, zz_ltF, zz_eqF, zz_eqT, zz_m1, zz_m2, zz_m3, zz_m4, zz_m5, zz_m6, zz_ck, zz_bl, zz_b3, zz_b2, zz_shl, zz_bt0, zz_bt1, pk_div, Nat.zero_add, Nat.add_zero, if_true, if_false, reduceIte, Nat.mul_zero, zz_or0, zz_inT, zz_inF, hmn, t0, t2, cg]
        · rw [if_neg c3] at cg
          refine skip (fun q => c3 q.2.2) ?_
          simp (disch := omega) only [fX11_countWinsOfSpeeds_t_b3, fX11_countWinsOfSpeeds_t_b3w, zz_lt, li_0, li_1, li_2, li_3, li_4, li_5, li_6, li_7, li_8, li_9, li_10, li_11, li_12, li_15, li_16, li_20, li_21, li_24, li_25, li_26, li_32, li_33, li_38, li_40, li_41, li_42, li_43, li_45, li_47, li_48, li_57, li_58, li_59, li_60, li_61, li_62, li_63, li_74, li_75, li_84, li_91, li_93, li_98, li_100, li_103, li_105, li_107, li_109, li_110, li_111, li_112, li_115, li_118, li_119, li_120, li_121, li_124, li_140, li_180, li_206, li_240, li_255, li_420, li_520, li_999, li_1000, li_1771, li_8240, li_9999, li_88200, li_1000000, li_2097151, li_31, nI_add, pk_mul, zz_sub, zz_an, nI_clamp, zz_leT, zz_leF, zz_ltT, zz_ltF, zz_eqF, zz_eqT, zz_m1, zz_m2, zz_m3, zz_m4, zz_m5, zz_m6, zz_ck, zz_bl, zz_b3, zz_b2, zz_shl, zz_bt0, zz_bt1, pk_div, Nat.zero_add, Nat.add_zero, if_true, if_false, reduceIte, Nat.mul_zero, zz_or0, zz_inT, zz_inF, hmn, t0, t2, cg, noI]
      · refine skip (fun q => c2 q.2.1) ?_
        simp (disch := omega) only [fX11_countWinsOfSpeeds_t_b3, fX11_countWinsOfSpeeds_t_b3w, zz_lt, li_0, li_1, li_2, li_3, li_4, li_5, li_6, li_7, li_8, li_9, li_10, li_11, li_12, li_15, li_16, li_20, li_21, li_24, li_25, li_26, li_32, li_33, li_38, li_40, li_41, li_42, li_43, li_45, li_47, li_48, li_57, li_58, li_59, li_60, li_61, li_62, li_63, li_74, li_75, li_84, li_91, li_93, li_98, li_100, li_103, li_105, li_107, li_109, li_110, li_111, li_112, li_115, li_118, li_119, li_120, li_121, li_124, li_140, li_180, li_206, li_240, li_255, li_420, li_520, li_999, li_1000, li_1771, li_8240, li_9999, li_88200, li_1000000, li_2097151, li_31, nI_add, pk_mul, zz_sub, zz_an, nI_clamp, zz_leT, zz_leF, zz_ltT, zz_ltF, zz_eqF, zz_eqT, zz_m1, zz_m2, zz_m3, zz_m4, zz_m5, zz_m6, zz_ck, zz_bl, zz_b3, zz_b2, zz_shl, zz_bt0, zz_bt1, pk_div, Nat.zero_add, Nat.add_zero, if_true, if_false, reduceIte, Nat.mul_zero, zz_or0, zz_inT, zz_inF, hmn, t0, t2, noI]
    · refine skip (fun q => c1 q.1) ?_
      simp (disch := omega) only [fX11_countWinsOfSpeeds_t_b3, fX11_countWinsOfSpeeds_t_b3w, zz_lt, li_0, li_1, li_2, li_3, li_4, li_5, li_6, li_7, li_8, li_9, li_10, li_11, li_12, li_15, li_16, li_20, li_21, li_24, li_25, li_26, li_32, li_33, li_38, li_40, li_41, li_42, li_43, li_45, li_47, li_48, li_57, li_58, li_59, li_60, li_61, li_62, li_63, li_74, li_75, li_84, li_91, li_93, li_98, li_100, li_103, li_105, li_107, li_109, li_110, li_111, li_112, li_115, li_118, li_119, li_120, li_121, li_124, li_140, li_180, li_206, li_240, li_255, li_420, li_520, li_999, li_1000, li_1771, li_8240, li_9999, li_88200, li_1000000, li_2097151, li_31, nI_add, pk_mul, zz_sub, zz_an, nI_clamp, zz_leT, zz_leF, zz_ltT, zz_ltF, zz_eqF, zz_eqT, zz_m1, zz_m2, zz_m3, zz_m4, zz_m5, zz_m6, zz_ck, zz_bl, zz_b3, zz_b2, zz_shl, zz_bt0, zz_bt1, pk_div, Nat.zero_add, Nat.add_zero, if_true, if_false, reduceIte, Nat.mul_zero, zz_or0, zz_inT, zz_inF, hmn, t0, noI]
theorem cw33 {g : Nat → Nat → Nat} (hg : GW g) (n d : Nat) (hn : 100 < n) (L : am_L) (k26 : Int32 → Int32 → am_I → am_L → Option (am_I × am_L)) {s X : Nat} (hs : s < 2) (hX : X ≤ 5) : ∀ (j Y F : Nat) (I : am_I), Y + j = 6 → j < F → CS I g → rDu I g → (∀ m, m < g 0 0 → I 66 m = nI (Wv g s m X Y)) → ∃ I', fX11_countWins_t_b33 n d k26 F (nI s) (nI X) (nI Y) I L = k26 (nI s) (nI (X + 1)) I' L ∧ rDu I' g ∧ am_ag sDq I I' ∧ (∀ m, m < g 0 0 → I' 66 m = nI (Wv g s m X 6))
  | _, _, 0, _, _, f, _, _, _ => by omega
  | 0, Y, F + 1, I, e, f, h, hR, h66 => by
    have e1 : Y = 6 := by omega
    subst e1
    refine ⟨I, ?_, hR, ag_rf, h66⟩
    simp (disch := omega) only [fX11_countWins_t_b33, fX11_countWins_t_b33w, zz_lt, li_0, li_1, li_2, li_3, li_4, li_5, li_6, li_7, li_8, li_9, li_10, li_11, li_12, li_15, li_16, li_20, li_21, li_24, li_25, li_26, li_32, li_33, li_38, li_40, li_41, li_42, li_43, li_45, li_47, li_48, li_57, li_58, li_59, li_60, li_61, li_62, li_63, li_74, li_75, li_84, li_91, li_93, li_98, li_100, li_103, li_105, li_107, li_109, li_110, li_111, li_112, li_115, li_118, li_119, li_120, li_121, li_124, li_140, li_180, li_206, li_240, li_255, li_420, li_520, li_999, li_1000, li_1771, li_8240, li_9999, li_88200, li_1000000, li_2097151, li_31, nI_add, pk_mul, zz_sub, zz_an, nI_clamp, zz_leT, zz_leF, zz_ltT, zz_ltF, zz_eqF, zz_eqT, zz_m1, zz_m2, zz_m3, zz_m4, zz_m5, zz_m6, zz_ck, zz_bl, zz_b3, zz_b2, zz_shl, zz_bt0, zz_bt1, pk_div, Nat.zero_add, Nat.add_zero, if_true, if_false, reduceIte, Nat.mul_zero, zz_or0, zz_inT, zz_inF]
  | j + 1, Y, F + 1, I, e, f, h, hR, h66 => by
    have gm := hg.1
    obtain ⟨I1, w1, w2, w3, w4⟩ := cw3 hg n d hn L hs hX (Y := Y) (by omega) (g 0 0) 0 n I (by omega) (by omega) h hR (fun m hm => by rw [if_neg (by omega)]; exact h66 m hm)
    obtain ⟨I', z1, z2, z3, z4⟩ := cw33 hg n d hn L k26 hs hX j (Y + 1) F I1 (by omega) (by omega) (CS_Dq h w3) w2 w4
    refine ⟨I', ?_, z2, ag_tr w3 z3, z4⟩
    have st : fX11_countWinsOfSpeeds_t n d (nI s) (nI X) (nI Y) I L = some (I1, L) := by
      rw [← w1]; simp (disch := omega) only [fX11_countWinsOfSpeeds_t, zz_lt, li_0, li_1, li_2, li_3, li_4, li_5, li_6, li_7, li_8, li_9, li_10, li_11, li_12, li_15, li_16, li_20, li_21, li_24, li_25, li_26, li_32, li_33, li_38, li_40, li_41, li_42, li_43, li_45, li_47, li_48, li_57, li_58, li_59, li_60, li_61, li_62, li_63, li_74, li_75, li_84, li_91, li_93, li_98, li_100, li_103, li_105, li_107, li_109, li_110, li_111, li_112, li_115, li_118, li_119, li_120, li_121, li_124, li_140, li_180, li_206, li_240, li_255, li_420, li_520, li_999, li_1000, li_1771, li_8240, li_9999, li_88200, li_1000000, li_2097151, li_31, nI_add, pk_mul, zz_sub, zz_an, nI_clamp, zz_leT, zz_leF, zz_ltT, zz_ltF, zz_eqF, zz_eqT, zz_m1, zz_m2, zz_m3, zz_m4, zz_m5, zz_m6, zz_ck, zz_bl, zz_b3, zz_b2, zz_shl, zz_bt0, zz_bt1, pk_div, Nat.zero_add, Nat.add_zero, if_true, if_false, reduceIte, Nat.mul_zero, zz_or0, zz_inT, zz_inF]
    rw [← z1]
    simp (disch := omega) only [fX11_countWins_t_b33, fX11_countWins_t_b33w, fX11_countWins_t_b45, zz_lt, li_0, li_1, li_2, li_3, li_4, li_5, li_6, li_7, li_8, li_9, li_10, li_11, li_12, li_15, li_16, li_20, li_21, li_24, li_25, li_26, li_32, li_33, li_38, li_40, li_41, li_42, li_43, li_45, li_47, li_48, li_57, li_58, li_59, li_60, li_61, li_62, li_63, li_74, li_75, li_84, li_91, li_93, li_98, li_100, li_103, li_105, li_107, li_109, li_110, li_111, li_112, li_115, li_118, li_119, li_120, li_121, li_124, li_140, li_180, li_206, li_240, li_255, li_420, li_520, li_999, li_1000, li_1771, li_8240, li_9999, li_88200, li_1000000, li_2097151, li_31, nI_add, pk_mul, zz_sub, zz_an, nI_clamp, zz_leT, zz_leF, zz_ltT, zz_ltF, zz_eqF, zz_eqT, zz_m1, zz_m2, zz_m3, zz_m4, zz_m5, zz_m6, zz_ck, zz_bl, zz_b3, zz_b2, zz_shl, zz_bt0, zz_bt1, pk_div, Nat.zero_add, Nat.add_zero, if_true, if_false, reduceIte, Nat.mul_zero, zz_or0, zz_inT, zz_inF, st]
theorem cw26 {g : Nat → Nat → Nat} (hg : GW g) (n d : Nat) (hn : 100 < n) (L : am_L) {s : Nat} (hs : s < 2) : ∀ (j X F : Nat) (I : am_I), X + j = 6 → j < F → CS I g → rDu I g → (∀ m, m < g 0 0 → I 66 m = nI (Wv g s m X 1)) → ∃ I', fX11_countWins_t_b26 n d F (nI s) (nI X) I L = some (I', L) ∧ rDu I' g ∧ am_ag sDq I I' ∧ (∀ m, m < g 0 0 → I' 66 m = nI (Wv g s m 6 1))
  | _, _, 0, _, _, f, _, _, _ => by omega
  | 0, X, F + 1, I, e, f, h, hR, h66 => by
    have e1 : X = 6 := by omega
    subst e1
    refine ⟨I, ?_, hR, ag_rf, h66⟩
    simp (disch := omega) only [fX11_countWins_t_b26, fX11_countWins_t_b26w, zz_lt, li_0, li_1, li_2, li_3, li_4, li_5, li_6, li_7, li_8, li_9, li_10, li_11, li_12, li_15, li_16, li_20, li_21, li_24, li_25, li_26, li_32, li_33, li_38, li_40, li_41, li_42, li_43, li_45, li_47, li_48, li_57, li_58, li_59, li_60, li_61, li_62, li_63, li_74, li_75, li_84, li_91, li_93, li_98, li_100, li_103, li_105, li_107, li_109, li_110, li_111, li_112, li_115, li_118, li_119, li_120, li_121, li_124, li_140, li_180, li_206, li_240, li_255, li_420, li_520, li_999, li_1000, li_1771, li_8240, li_9999, li_88200, li_1000000, li_2097151, li_31, nI_add, pk_mul, zz_sub, zz_an, nI_clamp, zz_leT, zz_leF, zz_ltT, zz_ltF, zz_eqF, zz_eqT, zz_m1, zz_m2, zz_m3, zz_m4, zz_m5, zz_m6, zz_ck, zz_bl, zz_b3, zz_b2, zz_shl, zz_bt0, zz_bt1, pk_div, Nat.zero_add, Nat.add_zero, if_true, if_false, reduceIte, Nat.mul_zero, zz_or0, zz_inT, zz_inF]
  | j + 1, X, F + 1, I, e, f, h, hR, h66 => by
    obtain ⟨I1, w1, w2, w3, w4⟩ := cw33 hg n d hn L (fX11_countWins_t_b26 n d F) hs (X := X) (by omega) 5 1 n I (by omega) (by omega) h hR h66
    obtain ⟨I', z1, z2, z3, z4⟩ := cw26 hg n d hn L hs j (X + 1) F I1 (by omega) (by omega) (CS_Dq h w3) w2 (fun m hm => by rw [w4 m hm, Wv_6 hg])
    refine ⟨I', ?_, z2, ag_tr w3 z3, z4⟩
    rw [← z1, ← w1]
    simp (disch := omega) only [fX11_countWins_t_b26, fX11_countWins_t_b26w, zz_lt, li_0, li_1, li_2, li_3, li_4, li_5, li_6, li_7, li_8, li_9, li_10, li_11, li_12, li_15, li_16, li_20, li_21, li_24, li_25, li_26, li_32, li_33, li_38, li_40, li_41, li_42, li_43, li_45, li_47, li_48, li_57, li_58, li_59, li_60, li_61, li_62, li_63, li_74, li_75, li_84, li_91, li_93, li_98, li_100, li_103, li_105, li_107, li_109, li_110, li_111, li_112, li_115, li_118, li_119, li_120, li_121, li_124, li_140, li_180, li_206, li_240, li_255, li_420, li_520, li_999, li_1000, li_1771, li_8240, li_9999, li_88200, li_1000000, li_2097151, li_31, nI_add, pk_mul, zz_sub, zz_an, nI_clamp, zz_leT, zz_leF, zz_ltT, zz_ltF, zz_eqF, zz_eqT, zz_m1, zz_m2, zz_m3, zz_m4, zz_m5, zz_m6, zz_ck, zz_bl, zz_b3, zz_b2, zz_shl, zz_bt0, zz_bt1, pk_div, Nat.zero_add, Nat.add_zero, if_true, if_false, reduceIte, Nat.mul_zero, zz_or0, zz_inT, zz_inF]
theorem cw2 (n d : Nat) (L : am_L) {g : Nat → Nat → Nat} {s : Nat} : ∀ (j i F : Nat) (I : am_I), i + j = 8 → j < F → rDu I g → (∀ m, m < i → I 66 m = nI 0) → ∃ I', fX11_countWins_t_b2 n d F (nI s) (nI i) I L = fX11_countWins_t_b26 n d n (nI s) (nI 1) I' L ∧ rDu I' g ∧ am_ag sDq I I' ∧ (∀ m, m < 8 → I' 66 m = nI 0)
  | _, _, 0, _, _, f, _, _ => by omega
  | 0, i, F + 1, I, e, f, hR, h66 => by
    have e1 : i = 8 := by omega
    subst e1
    refine ⟨I, ?_, hR, ag_rf, h66⟩
    simp (disch := omega) only [fX11_countWins_t_b2, fX11_countWins_t_b2w, zz_lt, li_0, li_1, li_2, li_3, li_4, li_5, li_6, li_7, li_8, li_9, li_10, li_11, li_12, li_15, li_16, li_20, li_21, li_24, li_25, li_26, li_32, li_33, li_38, li_40, li_41, li_42, li_43, li_45, li_47, li_48, li_57, li_58, li_59, li_60, li_61, li_62, li_63, li_74, li_75, li_84, li_91, li_93, li_98, li_100, li_103, li_105, li_107, li_109, li_110, li_111, li_112, li_115, li_118, li_119, li_120, li_121, li_124, li_140, li_180, li_206, li_240, li_255, li_420, li_520, li_999, li_1000, li_1771, li_8240, li_9999, li_88200, li_1000000, li_2097151, li_31, nI_add, pk_mul, zz_sub, zz_an, nI_clamp, zz_leT, zz_leF, zz_ltT, zz_ltF, zz_eqF, zz_eqT, zz_m1, zz_m2, zz_m3, zz_m4, zz_m5, zz_m6, zz_ck, zz_bl, zz_b3, zz_b2, zz_shl, zz_bt0, zz_bt1, pk_div, Nat.zero_add, Nat.add_zero, if_true, if_false, reduceIte, Nat.mul_zero, zz_or0, zz_inT, zz_inF]
  | j + 1, i, F + 1, I, e, f, hR, h66 => by
    obtain ⟨I', z1, z2, z3, z4⟩ := cw2 n d L (g := g) (s := s) j (i + 1) F (am_up I 66 i (nI 0)) (by omega) (by omega) (rDu_66 hR _ _) (fun m hm => by
      by_cases c : m = i
      · rw [c]; exact up_s rfl
      · rw [up_n c]; exact h66 m (by omega))
    refine ⟨I', ?_, z2, ag_tr (Dq_66 ag_rf _ _) z3, z4⟩
    rw [← z1]
    simp (disch := omega) only [fX11_countWins_t_b2, fX11_countWins_t_b2w, zz_lt, li_0, li_1, li_2, li_3, li_4, li_5, li_6, li_7, li_8, li_9, li_10, li_11, li_12, li_15, li_16, li_20, li_21, li_24, li_25, li_26, li_32, li_33, li_38, li_40, li_41, li_42, li_43, li_45, li_47, li_48, li_57, li_58, li_59, li_60, li_61, li_62, li_63, li_74, li_75, li_84, li_91, li_93, li_98, li_100, li_103, li_105, li_107, li_109, li_110, li_111, li_112, li_115, li_118, li_119, li_120, li_121, li_124, li_140, li_180, li_206, li_240, li_255, li_420, li_520, li_999, li_1000, li_1771, li_8240, li_9999, li_88200, li_1000000, li_2097151, li_31, nI_add, pk_mul, zz_sub, zz_an, nI_clamp, zz_leT, zz_leF, zz_ltT, zz_ltF, zz_eqF, zz_eqT, zz_m1, zz_m2, zz_m3, zz_m4, zz_m5, zz_m6, zz_ck, zz_bl, zz_b3, zz_b2, zz_shl, zz_bt0, zz_bt1, pk_div, Nat.zero_add, Nat.add_zero, if_true, if_false, reduceIte, Nat.mul_zero, zz_or0, zz_inT, zz_inF]
theorem pc_count {g : Nat → Nat → Nat} (hg : GW g) (n d : Nat) (hn : 100 < n) {I : am_I} (h : CS I g) (hR : rDu I g) (L : am_L) {s : Nat} (hs : s < 2) : ∃ I', fX11_countWins_t n d (nI s) I L = some (I', L) ∧ rDu I' g ∧ am_ag sDq I I' ∧ (∀ m, m < g 0 0 → g 1 m = s → 0 < g 9 m → I' 66 m = nI (tot g s m 6)) := by
  have gm := hg.1
  obtain ⟨I1, w1, w2, w3, w4⟩ := cw2 n d L (g := g) (s := s) 8 0 n I (by omega) (by omega) hR (fun m hm => by omega)
  obtain ⟨I2, z1, z2, z3, z4⟩ := cw26 hg n d hn L hs 5 1 n I1 (by omega) (by omega) (CS_Dq h w3) w2 (fun m hm => by
    rw [w4 m (by omega)]
    have sp := hg.2.2.2.2.2.1 m hm
    have : Wv g s m 1 1 = 0 := by
      unfold Wv
      split
      · rw [if_neg (by omega), tot_1 hg]; split <;> rfl
      · rfl
    rw [this])
  refine ⟨I2, ?_, z2, ag_tr w3 z3, fun m hm c1 c2 => ?_⟩
  · rw [← z1, ← w1]
    simp (disch := omega) only [fX11_countWins_t, zz_lt, li_0, li_1, li_2, li_3, li_4, li_5, li_6, li_7, li_8, li_9, li_10, li_11, li_12, li_15, li_16, li_20, li_21, li_24, li_25, li_26, li_32, li_33, li_38, li_40, li_41, li_42, li_43, li_45, li_47, li_48, li_57, li_58, li_59, li_60, li_61, li_62, li_63, li_74, li_75, li_84, li_91, li_93, li_98, li_100, li_103, li_105, li_107, li_109, li_110, li_111, li_112, li_115, li_118, li_119, li_120, li_121, li_124, li_140, li_180, li_206, li_240, li_255, li_420, li_520, li_999, li_1000, li_1771, li_8240, li_9999, li_88200, li_1000000, li_2097151, li_31, nI_add, pk_mul, zz_sub, zz_an, nI_clamp, zz_leT, zz_leF, zz_ltT, zz_ltF, zz_eqF, zz_eqT, zz_m1, zz_m2, zz_m3, zz_m4, zz_m5, zz_m6, zz_ck, zz_bl, zz_b3, zz_b2, zz_shl, zz_bt0, zz_bt1, pk_div, Nat.zero_add, Nat.add_zero, if_true, if_false, reduceIte, Nat.mul_zero, zz_or0, zz_inT, zz_inF]
  · rw [z4 m hm]
    have sp := hg.2.2.2.2.2.1 m hm
    unfold Wv
    rw [if_pos ⟨c1, c2⟩, if_pos (by omega)]
