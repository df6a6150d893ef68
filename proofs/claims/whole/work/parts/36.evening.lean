/-! PURE: evening, march. -/
def gday (g : Nat → Nat → Nat) : Nat → Nat → Nat := fun p q => if p = 11 then 0 else if p = 0 ∧ q = 4 then g 0 4 + 1 else g p q
theorem gday_sa (g : Nat → Nat → Nat) : SA g (gday g) := by
  refine ⟨fun p h1 h2 h3 h4 => ?_, fun q hq => ?_⟩
  · funext q
    unfold gday
    rw [if_neg h3, if_neg (by omega)]
  · unfold gday
    rw [if_neg (by omega), if_neg (by omega)]
theorem gday_11 (g : Nat → Nat → Nat) (m : Nat) : gday g 11 m = 0 := rfl
theorem gday_d (g : Nat → Nat → Nat) : gday g 0 4 = g 0 4 + 1 := rfl
theorem gday_9 (g : Nat → Nat → Nat) (m : Nat) : gday g 9 m = g 9 m := rfl
theorem gday_10 (g : Nat → Nat → Nat) (m : Nat) : gday g 10 m = g 10 m := rfl
theorem gday_w {g : Nat → Nat → Nat} (hg : GW g) (hd : g 0 4 < 9999) : GW (gday g) := GW_mk hg (gday_sa g) ⟨fun m hm => by
  have := hg.2.2.2.2.2.2.2.2.1 m hm
  rw [gday_9, gday_10, gday_11]
  exact ⟨this.1, this.2.1, by omega⟩, by rw [gday_d]; omega⟩
theorem bits_no {p : Nat → Bool} : ∀ n, (∀ i, i < n → p i = false) → am_bits p n = nI 0
  | 0, _ => rfl
  | n + 1, h => by
    unfold am_bits
    rw [bits_no n (fun i hi => h i (by omega)), h n (by omega), if_neg (by decide), zz_or0]
def s16 (k j : Nat) : Bool := k == 17 && decide (16 ≤ j ∧ j < 24)
theorem pm_endL (n d : Nat) (L : am_L) {μ : Nat} (hμ : μ ≤ 8) : ∀ (j i F : Nat) (I : am_I), i + j = μ → j < F → I 0 25 = nI μ → (∀ k, k < i → I 17 (16 + k) = nI 0) → ∃ I', fX12_endDay_b13 n d F (nI i) I L = am_b2 (fX12_note n d (nI 3) (-nI 1) (-nI 1) I' L) (fun I1 L1 => some (I1, L1)) ∧ (∀ k, k < μ → I' 17 (16 + k) = nI 0) ∧ am_ag s16 I I'
  | _, _, 0, _, _, f, _, _ => by omega
  | 0, i, F + 1, I, e, f, h1, h2 => by
    have e1 : i = μ := by omega
    subst e1
    exact ⟨I, by simp (disch := omega) only [fX12_endDay_b13, fX12_endDay_b13w, zz_lt, li_0, li_1, li_2, li_3, li_4, li_5, li_6, li_7, li_8, li_9, li_10, li_11, li_12, li_15, li_16, li_20, li_21, li_24, li_25, li_26, li_32, li_33, li_38, li_40, li_41, li_42, li_43, li_45, li_47, li_48, li_57, li_58, li_59, li_60, li_61, li_62, li_63, li_74, li_75, li_84, li_91, li_93, li_98, li_100, li_103, li_105, li_107, li_109, li_110, li_111, li_112, li_115, li_118, li_119, li_120, li_121, li_124, li_140, li_180, li_206, li_240, li_255, li_420, li_520, li_999, li_1000, li_1771, li_8240, li_9999, li_88200, li_1000000, li_2097151, li_31, nI_add, pk_mul, zz_sub, zz_an, nI_clamp, zz_leT, zz_leF, zz_ltT, zz_ltF, zz_eqF, zz_eqT, zz_m1, zz_m2, zz_m3, zz_m4, zz_m5, zz_m6, zz_ck, zz_bl, zz_b3, zz_b2, zz_shl, zz_bt0, zz_bt1, pk_div, Nat.zero_add, Nat.add_zero, if_true, if_false, reduceIte, Nat.mul_zero, zz_or0, zz_inT, zz_inF, h1], h2, ag_rf⟩
  | j + 1, i, F + 1, I, e, f, h1, h2 => by
    obtain ⟨I', w1, w2, w3⟩ := pm_endL n d L hμ j (i + 1) F (am_up I 17 (16 + i) (nI 0)) (by omega) (by omega) (by rw [am_up_ne (by omega)]; exact h1) (fun k hk => by
      by_cases c : k = i
      · rw [up_s (by omega)]
      · rw [up_n (by omega)]; exact h2 k (by omega))
    refine ⟨I', ?_, w2, ag_tr (ag_up ag_rf (by simp [s16]; omega)) w3⟩
    rw [← w1]
    simp (disch := omega) only [fX12_endDay_b13, fX12_endDay_b13w, zz_lt, li_0, li_1, li_2, li_3, li_4, li_5, li_6, li_7, li_8, li_9, li_10, li_11, li_12, li_15, li_16, li_20, li_21, li_24, li_25, li_26, li_32, li_33, li_38, li_40, li_41, li_42, li_43, li_45, li_47, li_48, li_57, li_58, li_59, li_60, li_61, li_62, li_63, li_74, li_75, li_84, li_91, li_93, li_98, li_100, li_103, li_105, li_107, li_109, li_110, li_111, li_112, li_115, li_118, li_119, li_120, li_121, li_124, li_140, li_180, li_206, li_240, li_255, li_420, li_520, li_999, li_1000, li_1771, li_8240, li_9999, li_88200, li_1000000, li_2097151, li_31, nI_add, pk_mul, zz_sub, zz_an, nI_clamp, zz_leT, zz_leF, zz_ltT, zz_ltF, zz_eqF, zz_eqT, zz_m1, zz_m2, zz_m3, zz_m4, zz_m5, zz_m6, zz_ck, zz_bl, zz_b3, zz_b2, zz_shl, zz_bt0, zz_bt1, pk_div, Nat.zero_add, Nat.add_zero, if_true, if_false, reduceIte, Nat.mul_zero, zz_or0, zz_inT, zz_inF, h1]
theorem dy_end {IC : am_I} {LC : am_L} {IM : am_I} {W : Nat → (Nat → Nat) → Int32} {q : Nat → Nat} {g : Nat → Nat → Nat} {a : Nat} {K : Nat → Nat → Nat → Nat} {kw l : Nat → Nat} (h : DY IC LC IM W q g a K kw l) (h0 : 0 < a) (hlt : kw a < kw (a - 1) + 9) (n d : Nat) (hn : 10000 < n) (LM : am_L) (hd9 : g 0 4 < 9999) : dyR (fX11_endDay n d IC LC) (fX12_endDay n d IM LM) IC LC IM LM W q g (gday g) a K kw l (100 * 3 + 10 * 0 + 0) := by
  obtain ⟨h1, hl, h3, h4, h5, h6, h7, h8, h9, h10⟩ := h
  have gm := h1.1
  have aa := h8.1
  have hg2 := gday_w h1 hd9
  have sa := gday_sa g
  have c1 : CS (am_up (am_up IC 39 5 (nI (g 0 4 + 1))) 39 4 (nI 0)) (gday g) := by
    obtain ⟨hm, hgv, hp, ha, hd, t0, t1, t2, t3, t4, t5, o0, o1, r0, r1, hde, hra, hs0, hs1⟩ := id h3
    refine CS_mk h3 sa (fun k k1 k2 => by rw [am_up_ne (by omega), am_up_ne (by omega)]) ?_ (fun k hk => ?_) (fun k hk => ?_) ?_
    · rw [up_n (by omega), up_s rfl, gday_d]
    · rw [am_up_ne (by omega), am_up_ne (by omega)]; exact r0 k hk
    · rw [am_up_ne (by omega), am_up_ne (by omega)]; exact r1 k hk
    · rw [up_s rfl]; exact (bits_no (p := fun m => decide (gday g 11 m = 1)) _ (fun i _ => rfl)).symm
  have c2 : CL (am_up (am_up IC 39 5 (nI (g 0 4 + 1))) 39 4 (nI 0)) W q := CL_up hl h4 (fun k k1 k2 => by rw [am_up_ne (by omega), am_up_ne (by omega)])
  obtain ⟨I1, w1, w2, w3⟩ := pc_lookAll hg2 hl n d (by omega) c1 c2 LC (fun k hk hk2 => by
    rw [up_n (by omega), up_n (by omega)]
    exact CH_hi h1 h5 k hk hk2)
  have hd := h3.2.2.2.2.1
  obtain ⟨hm, hgv, hp, ha, hdM, t0, t1, t2, t3, t4, t5, o0, o1, r0, r1, r2⟩ := id h6
  obtain ⟨I2, v1, v2, v3⟩ := pm_endL n d LM gm (g 0 0) 0 n (am_up IM 17 24 (nI (g 0 4 + 1))) (by omega) (by omega) (by rw [am_up_ne (by omega)]; exact hm) (fun k hk => by omega)
  have e17 : ∀ k, k ≠ 17 → I2 k = IM k := fun k hk => by
    have : I2 k = am_up IM 17 24 (nI (g 0 4 + 1)) k := funext (fun j => v3 k j (by simp [s16, hk]))
    rw [this, am_up_ne hk]
  have e17' : ∀ j, j < 16 ∨ 24 ≤ j → I2 17 j = am_up IM 17 24 (nI (g 0 4 + 1)) 17 j := fun j hj => v3 17 j (by simp [s16]; omega)
  have y6 : MS I2 (gday g) := by
    refine MS_mk h6 sa (by rw [e17 _ (by omega)]) (by rw [e17 _ (by omega)]) (fun k k1 k2 => e17 k (by omega)) ?_ (fun k hk => ?_) (fun k hk => ?_) (fun k hk => ?_)
    · rw [e17' _ (by omega), up_s rfl, gday_d]
    · rw [e17' _ (by omega), up_n (by omega)]; exact r0 k hk
    · rw [e17' _ (by omega), up_n (by omega)]; exact r1 k hk
    · rw [v2 k hk]; rfl
  have hpot : pot g (g 0 0) + 1 ≤ pot (gday g) (g 0 0) := by
    have := sm_le (p := g 11) (g 0 0) (fun m hm => (h1.2.2.2.2.2.2.2.2.1 m hm).2.2)
    unfold pot
    rw [gday_d]
    omega
  obtain ⟨I3, I4, y1, y2, y3, y4, y5⟩ := dy_note (LC := LC) h1 hg2 hl (CS_keepH c1 w2) (CL_keep hl c2 w2) w3 y6 (ML_up h7 (by rw [e17 _ (by omega)]) (by rw [e17 _ (by omega)]) (fun k k1 k2 => e17 k (by omega))) h8 (CP_rd (CP_rd h9 aa (ag_up (ag_up ag_rf sRd_395) sRd_394)) aa (ag_Rd w2)) (MP_eq h10 (by rw [e17 _ (by omega)]) (e17 18 (by omega)) (fun j hj => by rw [e17' j (by omega), up_n (by omega)])) sa h0 hlt hpot n d hn LM (x := 3) (y := 0) (z := 0) (by omega) (by omega) (by omega)
  rw [en_0] at y1 y2
  refine ⟨I3, I4, ?_, ?_, y3, sa, ag_tr (ag_tr (ag_rdC (ag_up (ag_up ag_rf sRd_395) sRd_394)) (ag_rdC (ag_Rd w2))) (ag_liC y4), ag_tr (ag_tr (ag_up ag_rf sDM_17) (ag_wk v3 (fun k j hk => ?_))) (ag_nM y5)⟩
  · simp (disch := omega) only [fX11_endDay, fX7_beginNextDay, zz_lt, li_0, li_1, li_2, li_3, li_4, li_5, li_6, li_7, li_8, li_9, li_10, li_11, li_12, li_15, li_16, li_20, li_21, li_24, li_25, li_26, li_32, li_33, li_38, li_40, li_41, li_42, li_43, li_45, li_47, li_48, li_57, li_58, li_59, li_60, li_61, li_62, li_63, li_74, li_75, li_84, li_91, li_93, li_98, li_100, li_103, li_105, li_107, li_109, li_110, li_111, li_112, li_115, li_118, li_119, li_120, li_121, li_124, li_140, li_180, li_206, li_240, li_255, li_420, li_520, li_999, li_1000, li_1771, li_8240, li_9999, li_88200, li_1000000, li_2097151, li_31, nI_add, pk_mul, zz_sub, zz_an, nI_clamp, zz_leT, zz_leF, zz_ltT, zz_ltF, zz_eqF, zz_eqT, zz_m1, zz_m2, zz_m3, zz_m4, zz_m5, zz_m6, zz_ck, zz_bl, zz_b3, zz_b2, zz_shl, zz_bt0, zz_bt1, pk_div, Nat.zero_add, Nat.add_zero, if_true, if_false, reduceIte, Nat.mul_zero, zz_or0, zz_inT, zz_inF, hd, w1, y1]
  · simp (disch := omega) only [fX12_endDay, zz_lt, li_0, li_1, li_2, li_3, li_4, li_5, li_6, li_7, li_8, li_9, li_10, li_11, li_12, li_15, li_16, li_20, li_21, li_24, li_25, li_26, li_32, li_33, li_38, li_40, li_41, li_42, li_43, li_45, li_47, li_48, li_57, li_58, li_59, li_60, li_61, li_62, li_63, li_74, li_75, li_84, li_91, li_93, li_98, li_100, li_103, li_105, li_107, li_109, li_110, li_111, li_112, li_115, li_118, li_119, li_120, li_121, li_124, li_140, li_180, li_206, li_240, li_255, li_420, li_520, li_999, li_1000, li_1771, li_8240, li_9999, li_88200, li_1000000, li_2097151, li_31, nI_add, pk_mul, zz_sub, zz_an, nI_clamp, zz_leT, zz_leF, zz_ltT, zz_ltF, zz_eqF, zz_eqT, zz_m1, zz_m2, zz_m3, zz_m4, zz_m5, zz_m6, zz_ck, zz_bl, zz_b3, zz_b2, zz_shl, zz_bt0, zz_bt1, pk_div, Nat.zero_add, Nat.add_zero, if_true, if_false, reduceIte, Nat.mul_zero, zz_or0, zz_inT, zz_inF, hdM]
    rw [v1, y2]
    rfl
  · unfold s16
    by_cases c : k = 17
    · subst c; rw [sDM_17] at hk; cases hk
    · simp [c]
theorem pm_canGo {g : Nat → Nat → Nat} {W : Nat → (Nat → Nat) → Int32} {q : Nat → Nat} (hg : GW g) (hl : GL q) (n d : Nat) (hn : 2000 < n) {I : am_I} (h : MS I g) (hL : ML I W q) (L : am_L) {m : Nat} (h2 : m < g 0 0) : ∃ I', fX12_canGo n d (nI m) I L = some (nI (g_free W g (q 1) m && decide (0 < g 9 m)).toNat, I', L) ∧ am_ag scrM I I' := by
  have gm := hg.1
  have b9 := hg.2.2.2.2.2.2.2.2.1 m h2
  obtain ⟨I1, v1, v2⟩ := pm_free hg hl n d hn h hL L h2
  have r0 := (MS_keep h v2).2.2.2.2.2.2.2.2.2.2.2.2.2.1 m h2
  refine ⟨I1, ?_, v2⟩
  cases c1 : g_free W g (q 1) m <;> by_cases c2 : 0 < g 9 m <;> (rw [c1] at v1; simp (disch := omega) only [fX12_canGo, zz_lt, li_0, li_1, li_2, li_3, li_4, li_5, li_6, li_7, li_8, li_9, li_10, li_11, li_12, li_15, li_16, li_20, li_21, li_24, li_25, li_26, li_32, li_33, li_38, li_40, li_41, li_42, li_43, li_45, li_47, li_48, li_57, li_58, li_59, li_60, li_61, li_62, li_63, li_74, li_75, li_84, li_91, li_93, li_98, li_100, li_103, li_105, li_107, li_109, li_110, li_111, li_112, li_115, li_118, li_119, li_120, li_121, li_124, li_140, li_180, li_206, li_240, li_255, li_420, li_520, li_999, li_1000, li_1771, li_8240, li_9999, li_88200, li_1000000, li_2097151, li_31, nI_add, pk_mul, zz_sub, zz_an, nI_clamp, zz_leT, zz_leF, zz_ltT, zz_ltF, zz_eqF, zz_eqT, zz_m1, zz_m2, zz_m3, zz_m4, zz_m5, zz_m6, zz_ck, zz_bl, zz_b3, zz_b2, zz_shl, zz_bt0, zz_bt1, pk_div, Nat.zero_add, Nat.add_zero, if_true, if_false, reduceIte, Nat.mul_zero, zz_or0, zz_inT, zz_inF, v1, r0, c2, decide_true, decide_false, Bool.and_true, Bool.and_false, Bool.true_and, Bool.false_and, Bool.toNat_true, Bool.toNat_false])
theorem pm_canStay {g : Nat → Nat → Nat} {W : Nat → (Nat → Nat) → Int32} {q : Nat → Nat} (hg : GW g) (hl : GL q) (n d : Nat) (hn : 2000 < n) {I : am_I} (h : MS I g) (hL : ML I W q) (L : am_L) {m : Nat} (h2 : m < g 0 0) : ∃ I', fX12_canStay n d (nI m) I L = some (nI (g_free W g (q 1) m && decide (0 < g 10 m)).toNat, I', L) ∧ am_ag scrM I I' := by
  have gm := hg.1
  have b9 := hg.2.2.2.2.2.2.2.2.1 m h2
  have b10 := gRest_le hg (g 9 m)
  obtain ⟨I1, v1, v2⟩ := pm_free hg hl n d hn h hL L h2
  have r1 := (MS_keep h v2).2.2.2.2.2.2.2.2.2.2.2.2.2.2.1 m h2
  refine ⟨I1, ?_, v2⟩
  cases c1 : g_free W g (q 1) m <;> by_cases c2 : 0 < g 10 m <;> (rw [c1] at v1; simp (disch := omega) only [fX12_canStay, zz_lt, li_0, li_1, li_2, li_3, li_4, li_5, li_6, li_7, li_8, li_9, li_10, li_11, li_12, li_15, li_16, li_20, li_21, li_24, li_25, li_26, li_32, li_33, li_38, li_40, li_41, li_42, li_43, li_45, li_47, li_48, li_57, li_58, li_59, li_60, li_61, li_62, li_63, li_74, li_75, li_84, li_91, li_93, li_98, li_100, li_103, li_105, li_107, li_109, li_110, li_111, li_112, li_115, li_118, li_119, li_120, li_121, li_124, li_140, li_180, li_206, li_240, li_255, li_420, li_520, li_999, li_1000, li_1771, li_8240, li_9999, li_88200, li_1000000, li_2097151, li_31, nI_add, pk_mul, zz_sub, zz_an, nI_clamp, zz_leT, zz_leF, zz_ltT, zz_ltF, zz_eqF, zz_eqT, zz_m1, zz_m2, zz_m3, zz_m4, zz_m5, zz_m6, zz_ck, zz_bl, zz_b3, zz_b2, zz_shl, zz_bt0, zz_bt1, pk_div, Nat.zero_add, Nat.add_zero, if_true, if_false, reduceIte, Nat.mul_zero, zz_or0, zz_inT, zz_inF, v1, r1, c2, decide_true, decide_false, Bool.and_true, Bool.and_false, Bool.true_and, Bool.false_and, Bool.toNat_true, Bool.toNat_false])
/-- both move a man by his own step -/
theorem dy_mv {IC : am_I} {LC : am_L} {IM : am_I} {W : Nat → (Nat → Nat) → Int32} {q : Nat → Nat} {g : Nat → Nat → Nat} {a : Nat} {K : Nat → Nat → Nat → Nat} {kw l : Nat → Nat} (h : DY IC LC IM W q g a K kw l) (n d : Nat) (hn : 10000 < n) (LM : am_L) {m : Nat} (h2 : m < g 0 0) (hs : 0 < g 9 m) : ∃ IC' IM', fX7_move n d (nI m) (nI 1) IC LC = some (IC', LC) ∧ fX12_comes n d (nI m) (nI (g 9 m - 1)) IM LM = some (IM', LM) ∧ DY IC' LC IM' W q (gcm g m (g 9 m - 1)) a K kw l ∧ am_ag sDC IC IC' ∧ am_ag sDM IM IM' := by
  obtain ⟨h1, hl, h3, h4, h5, h6, h7, h8, h9, h10⟩ := h
  have gm := h1.1
  have b9 := h1.2.2.2.2.2.2.2.2.1 m h2
  have aa := h8.1
  obtain ⟨I1, w1, w2, w3, w4, w5⟩ := pc_move h1 hl n d (by omega) h3 h4 h5 LC (m := m) (b := 1) h2 (by omega)
  have hg1 := gcm_w h1 (m := m) (s := g 9 m - 1) (by omega)
  have sa := gcm_sa g m (g 9 m - 1)
  obtain ⟨hm, hgv, hp, ha, hd, t0, t1, t2, t3, t4, t5, o0, o1, r0, r1, r2⟩ := id h6
  have e17 : ∀ k, k ≠ 17 → am_up (am_up IM 17 m (nI (g 9 m - 1))) 17 (8 + m) (nI (gRest g (g 9 m - 1))) k = IM k := fun k hk => by rw [am_up_ne hk, am_up_ne hk]
  refine ⟨I1, am_up (am_up IM 17 m (nI (g 9 m - 1))) 17 (8 + m) (nI (gRest g (g 9 m - 1))), w1, ?_, ⟨hg1, hl, w2, w3, w4, ?_, ML_up h7 (by rw [e17 _ (by omega)]) (by rw [e17 _ (by omega)]) (fun k k1 k2 => e17 k (by omega)), GP_mv h8 sa (gcm_11 _ _ _) (by rw [gcm_0]), by rw [gcm_0]; exact CP_rd h9 aa w5, by rw [gcm_0]; exact MP_eq h10 (by rw [e17 _ (by omega)]) (e17 18 (by omega)) (fun j hj => by rw [up_n (by omega), up_n (by omega)])⟩, ag_rdC w5, ag_up (ag_up ag_rf sDM_17) sDM_17⟩
  · have rs := MS_rest (I' := am_up IM 17 m (nI (g 9 m - 1))) h1 h6 (by rw [am_up_ne (by omega)]) (by rw [am_up_ne (by omega)]) n d (by omega) LM (s := g 9 m - 1) (by omega)
    simp (disch := omega) only [fX12_comes, zz_lt, li_0, li_1, li_2, li_3, li_4, li_5, li_6, li_7, li_8, li_9, li_10, li_11, li_12, li_15, li_16, li_20, li_21, li_24, li_25, li_26, li_32, li_33, li_38, li_40, li_41, li_42, li_43, li_45, li_47, li_48, li_57, li_58, li_59, li_60, li_61, li_62, li_63, li_74, li_75, li_84, li_91, li_93, li_98, li_100, li_103, li_105, li_107, li_109, li_110, li_111, li_112, li_115, li_118, li_119, li_120, li_121, li_124, li_140, li_180, li_206, li_240, li_255, li_420, li_520, li_999, li_1000, li_1771, li_8240, li_9999, li_88200, li_1000000, li_2097151, li_31, nI_add, pk_mul, zz_sub, zz_an, nI_clamp, zz_leT, zz_leF, zz_ltT, zz_ltF, zz_eqF, zz_eqT, zz_m1, zz_m2, zz_m3, zz_m4, zz_m5, zz_m6, zz_ck, zz_bl, zz_b3, zz_b2, zz_shl, zz_bt0, zz_bt1, pk_div, Nat.zero_add, Nat.add_zero, if_true, if_false, reduceIte, Nat.mul_zero, zz_or0, zz_inT, zz_inF, rs]
  · refine MS_mk h6 sa (by rw [e17 _ (by omega)]) (by rw [e17 _ (by omega)]) (fun k k1 k2 => e17 k (by omega)) ?_ (fun k hk => ?_) (fun k hk => ?_) (fun k hk => ?_)
    · rw [up_n (by omega), up_n (by omega), hd, gcm_0]
    · rw [up_n (by omega), gcm_9]
      by_cases c : k = m
      · rw [up_s c, if_pos c]
      · rw [up_n c, if_neg c]; exact r0 k hk
    · rw [gcm_10]
      by_cases c : k = m
      · rw [up_s (by omega), if_pos c]
      · rw [up_n (by omega), up_n (by omega), if_neg c]; exact r1 k hk
    · rw [up_n (by omega), up_n (by omega), gcm_11]; exact r2 k hk
theorem free_over {W : Nat → (Nat → Nat) → Int32} {g : Nat → Nat → Nat} {l : Nat} (m : Nat) (h : g_over W g l = true) : g_free W g l m = false := by
  unfold g_free
  rw [h]
  simp
theorem pm_evS {g : Nat → Nat → Nat} {W : Nat → (Nat → Nat) → Int32} {q : Nat → Nat} (hg : GW g) (hl : GL q) (ho : g_over W g (q 1) = true) (n d : Nat) (hn : 2000 < n) (L : am_L) : ∀ (j i G : Nat) (I : am_I), i + j = g 0 0 → j < G → MS I g → ML I W q → ∃ I', fX12_evening_b28 n d G (nI i) I L = fX12_evening_b28w n d (fun _ _ _ => none) (nI (g 0 0)) I' L ∧ am_ag scrM I I'
  | _, _, 0, _, _, f, _, _ => by omega
  | 0, i, G + 1, I, e, f, h, hL => by
    have gm := hg.1
    have hm := h.1
    have e1 : i = g 0 0 := by omega
    subst e1
    exact ⟨I, by simp (disch := omega) only [fX12_evening_b28, fX12_evening_b28w, zz_lt, li_0, li_1, li_2, li_3, li_4, li_5, li_6, li_7, li_8, li_9, li_10, li_11, li_12, li_15, li_16, li_20, li_21, li_24, li_25, li_26, li_32, li_33, li_38, li_40, li_41, li_42, li_43, li_45, li_47, li_48, li_57, li_58, li_59, li_60, li_61, li_62, li_63, li_74, li_75, li_84, li_91, li_93, li_98, li_100, li_103, li_105, li_107, li_109, li_110, li_111, li_112, li_115, li_118, li_119, li_120, li_121, li_124, li_140, li_180, li_206, li_240, li_255, li_420, li_520, li_999, li_1000, li_1771, li_8240, li_9999, li_88200, li_1000000, li_2097151, li_31, nI_add, pk_mul, zz_sub, zz_an, nI_clamp, zz_leT, zz_leF, zz_ltT, zz_ltF, zz_eqF, zz_eqT, zz_m1, zz_m2, zz_m3, zz_m4, zz_m5, zz_m6, zz_ck, zz_bl, zz_b3, zz_b2, zz_shl, zz_bt0, zz_bt1, pk_div, Nat.zero_add, Nat.add_zero, if_true, if_false, reduceIte, Nat.mul_zero, zz_or0, zz_inT, zz_inF, hm], ag_rf⟩
  | j + 1, i, G + 1, I, e, f, h, hL => by
    have gm := hg.1
    have hm := h.1
    obtain ⟨I1, w1, w2⟩ := pm_canGo hg hl n d hn h hL L (m := i) (by omega)
    rw [free_over i ho, Bool.false_and] at w1
    obtain ⟨I2, w3, w4⟩ := pm_evS hg hl ho n d hn L j (i + 1) G I1 (by omega) (by omega) (MS_keep h w2) (ML_keep hl hL w2)
    refine ⟨I2, ?_, ag_tr w2 w4⟩
    rw [← w3]
    simp (disch := omega) only [fX12_evening_b28, fX12_evening_b28w, fX12_evening_b59, zz_lt, li_0, li_1, li_2, li_3, li_4, li_5, li_6, li_7, li_8, li_9, li_10, li_11, li_12, li_15, li_16, li_20, li_21, li_24, li_25, li_26, li_32, li_33, li_38, li_40, li_41, li_42, li_43, li_45, li_47, li_48, li_57, li_58, li_59, li_60, li_61, li_62, li_63, li_74, li_75, li_84, li_91, li_93, li_98, li_100, li_103, li_105, li_107, li_109, li_110, li_111, li_112, li_115, li_118, li_119, li_120, li_121, li_124, li_140, li_180, li_206, li_240, li_255, li_420, li_520, li_999, li_1000, li_1771, li_8240, li_9999, li_88200, li_1000000, li_2097151, li_31, nI_add, pk_mul, zz_sub, zz_an, nI_clamp, zz_leT, zz_leF, zz_ltT, zz_ltF, zz_eqF, zz_eqT, zz_m1, zz_m2, zz_m3, zz_m4, zz_m5, zz_m6, zz_ck, zz_bl, zz_b3, zz_b2, zz_shl, zz_bt0, zz_bt1, pk_div, Nat.zero_add, Nat.add_zero, if_true, if_false, reduceIte, Nat.mul_zero, zz_or0, zz_inT, zz_inF, hm, w1, Bool.toNat_false]
theorem dy_evL {W : Nat → (Nat → Nat) → Int32} {q : Nat → Nat} {a : Nat} {K : Nat → Nat → Nat → Nat} {kw l : Nat → Nat} {μ : Nat} (n d : Nat) (hn : 10000 < n) (LC LM : am_L) : ∀ (j i F G : Nat) (IC IM : am_I) (g : Nat → Nat → Nat), i + j = μ → j < F → j < G → 0 < μ → DY IC LC IM W q g a K kw l → g 0 0 = μ → ∃ IC1 IM1 g1, fX11_evening_b52 n d F (nI i) IC LC = fX11_evening_b121 n d IC1 LC ∧ fX12_evening_b28 n d G (nI i) IM LM = fX12_evening_b28w n d (fun _ _ _ => none) (nI μ) IM1 LM ∧ DY IC1 LC IM1 W q g1 a K kw l ∧ SA g g1 ∧ g1 0 4 = g 0 4 ∧ am_ag sDC IC IC1 ∧ am_ag sDM IM IM1
  | _, _, 0, _, _, _, _, _, f, _, _, _, _ => by omega
  | _, _, _ + 1, 0, _, _, _, _, _, f, _, _, _ => by omega
  | 0, i, F + 1, G + 1, IC, IM, g, e, f, f2, hp, h, hμ => by
    have gm := h.1.1
    have hm := h.2.2.1.1
    have hm2 := h.2.2.2.2.2.1.1
    rw [hμ] at gm hm hm2
    have e1 : i = μ := by omega
    subst e1
    refine ⟨IC, IM, g, ?_, ?_, h, SA_rf, rfl, ag_rf, ag_rf⟩
    · simp (disch := omega) only [fX11_evening_b52, fX11_evening_b52w, zz_lt, li_0, li_1, li_2, li_3, li_4, li_5, li_6, li_7, li_8, li_9, li_10, li_11, li_12, li_15, li_16, li_20, li_21, li_24, li_25, li_26, li_32, li_33, li_38, li_40, li_41, li_42, li_43, li_45, li_47, li_48, li_57, li_58, li_59, li_60, li_61, li_62, li_63, li_74, li_75, li_84, li_91, li_93, li_98, li_100, li_103, li_105, li_107, li_109, li_110, li_111, li_112, li_115, li_118, li_119, li_120, li_121, li_124, li_140, li_180, li_206, li_240, li_255, li_420, li_520, li_999, li_1000, li_1771, li_8240, li_9999, li_88200, li_1000000, li_2097151, li_31, nI_add, pk_mul, zz_sub, zz_an, nI_clamp, zz_leT, zz_leF, zz_ltT, zz_ltF, zz_eqF, zz_eqT, zz_m1, zz_m2, zz_m3, zz_m4, zz_m5, zz_m6, zz_ck, zz_bl, zz_b3, zz_b2, zz_shl, zz_bt0, zz_bt1, pk_div, Nat.zero_add, Nat.add_zero, if_true, if_false, reduceIte, Nat.mul_zero, zz_or0, zz_inT, zz_inF, hm]
    · simp (disch := omega) only [fX12_evening_b28, fX12_evening_b28w, zz_lt, li_0, li_1, li_2, li_3, li_4, li_5, li_6, li_7, li_8, li_9, li_10, li_11, li_12, li_15, li_16, li_20, li_21, li_24, li_25, li_26, li_32, li_33, li_38, li_40, li_41, li_42, li_43, li_45, li_47, li_48, li_57, li_58, li_59, li_60, li_61, li_62, li_63, li_74, li_75, li_84, li_91, li_93, li_98, li_100, li_103, li_105, li_107, li_109, li_110, li_111, li_112, li_115, li_118, li_119, li_120, li_121, li_124, li_140, li_180, li_206, li_240, li_255, li_420, li_520, li_999, li_1000, li_1771, li_8240, li_9999, li_88200, li_1000000, li_2097151, li_31, nI_add, pk_mul, zz_sub, zz_an, nI_clamp, zz_leT, zz_leF, zz_ltT, zz_ltF, zz_eqF, zz_eqT, zz_m1, zz_m2, zz_m3, zz_m4, zz_m5, zz_m6, zz_ck, zz_bl, zz_b3, zz_b2, zz_shl, zz_bt0, zz_bt1, pk_div, Nat.zero_add, Nat.add_zero, if_true, if_false, reduceIte, Nat.mul_zero, zz_or0, zz_inT, zz_inF, hm2]
  | j + 1, i, F + 1, G + 1, IC, IM, g, e, f, f2, hp, h, hμ => by
    obtain ⟨h1, hl, h3, h4, h5, h6, h7, h8, h9, h10⟩ := id h
    have gm := h1.1
    have i1 : i < g 0 0 := by omega
    have b9 := h1.2.2.2.2.2.2.2.2.1 i i1
    have hm := h3.1
    have hm2 := h6.1
    have w1 := pc_over (W := W) (q := q) h1 n d h3 h5 LC (by omega)
    have w2 := pc_home (W := W) (q := q) h1 n d h5 LC i1
    have w3 := pc_did h1 n d h3 LC i1
    have w4 := pc_canGo h1 h3 n d LC i1
    cases co : g_over W g (q 1)
    · obtain ⟨I1, v1, v2⟩ := pm_canGo h1 hl n d (by omega) h6 h7 LM i1
      have r0 := (MS_keep h6 v2).2.2.2.2.2.2.2.2.2.2.2.2.2.1 i i1
      rw [co] at w1
      by_cases cf : g_free W g (q 1) i = true ∧ 0 < g 9 i
      · obtain ⟨c1, c2⟩ := cf
        obtain ⟨IC2, IM2, x1, x2, x3, x4, x5⟩ := dy_mv (DY_m h v2) n d hn LM i1 c2
        obtain ⟨IC3, IM3, g3, y1, y2, y3, y4, y5, y6, y7⟩ := dy_evL n d hn LC LM j (i + 1) F G IC2 IM2 (gcm g i (g 9 i - 1)) (by omega) (by omega) (by omega) hp x3 (by rw [gcm_0]; exact hμ)
        refine ⟨IC3, IM3, g3, ?_, ?_, y3, SA_tr (gcm_sa _ _ _) y4, y5.trans (by rw [gcm_0]), ag_tr x4 y6, ag_tr (ag_tr (ag_scM v2) x5) y7⟩
        · rw [← y1]
          unfold g_free at c1
          simp at c1
          simp only [c1.1.1, c1.1.2, c2, if_true, Bool.toNat_false] at w1 w2 w3 w4
          simp (disch := omega) only [fX11_evening_b52, fX11_evening_b52w, fX11_evening_b115, zz_lt, li_0, li_1, li_2, li_3, li_4, li_5, li_6, li_7, li_8, li_9, li_10, li_11, li_12, li_15, li_16, li_20, li_21, li_24, li_25, li_26, li_32, li_33, li_38, li_40, li_41, li_42, li_43, li_45, li_47, li_48, li_57, li_58, li_59, li_60, li_61, li_62, li_63, li_74, li_75, li_84, li_91, li_93, li_98, li_100, li_103, li_105, li_107, li_109, li_110, li_111, li_112, li_115, li_118, li_119, li_120, li_121, li_124, li_140, li_180, li_206, li_240, li_255, li_420, li_520, li_999, li_1000, li_1771, li_8240, li_9999, li_88200, li_1000000, li_2097151, li_31, nI_add, pk_mul, zz_sub, zz_an, nI_clamp, zz_leT, zz_leF, zz_ltT, zz_ltF, zz_eqF, zz_eqT, zz_m1, zz_m2, zz_m3, zz_m4, zz_m5, zz_m6, zz_ck, zz_bl, zz_b3, zz_b2, zz_shl, zz_bt0, zz_bt1, pk_div, Nat.zero_add, Nat.add_zero, if_true, if_false, reduceIte, Nat.mul_zero, zz_or0, zz_inT, zz_inF, hm, w1, w2, w3, w4, x1]
        · rw [← y2]
          rw [c1, decide_eq_true c2] at v1
          simp (disch := omega) only [fX12_evening_b28, fX12_evening_b28w, fX12_evening_b59, zz_lt, li_0, li_1, li_2, li_3, li_4, li_5, li_6, li_7, li_8, li_9, li_10, li_11, li_12, li_15, li_16, li_20, li_21, li_24, li_25, li_26, li_32, li_33, li_38, li_40, li_41, li_42, li_43, li_45, li_47, li_48, li_57, li_58, li_59, li_60, li_61, li_62, li_63, li_74, li_75, li_84, li_91, li_93, li_98, li_100, li_103, li_105, li_107, li_109, li_110, li_111, li_112, li_115, li_118, li_119, li_120, li_121, li_124, li_140, li_180, li_206, li_240, li_255, li_420, li_520, li_999, li_1000, li_1771, li_8240, li_9999, li_88200, li_1000000, li_2097151, li_31, nI_add, pk_mul, zz_sub, zz_an, nI_clamp, zz_leT, zz_leF, zz_ltT, zz_ltF, zz_eqF, zz_eqT, zz_m1, zz_m2, zz_m3, zz_m4, zz_m5, zz_m6, zz_ck, zz_bl, zz_b3, zz_b2, zz_shl, zz_bt0, zz_bt1, pk_div, Nat.zero_add, Nat.add_zero, if_true, if_false, reduceIte, Nat.mul_zero, zz_or0, zz_inT, zz_inF, hm2, v1, r0, x2, Bool.and_self, Bool.toNat_true]
      · have v1' : fX12_canGo n d (nI i) IM LM = some (nI 0, I1, LM) := by
          rw [v1]
          cases c1 : g_free W g (q 1) i
          · rfl
          · rw [decide_eq_false (fun c2 => cf ⟨c1, c2⟩)]; rfl
        obtain ⟨IC3, IM3, g3, y1, y2, y3, y4, y5, y6, y7⟩ := dy_evL n d hn LC LM j (i + 1) F G IC I1 g (by omega) (by omega) (by omega) hp (DY_m h v2) hμ
        refine ⟨IC3, IM3, g3, ?_, ?_, y3, y4, y5, y6, ag_tr (ag_scM v2) y7⟩
        · rw [← y1]
          unfold g_free at cf
          rw [co] at cf
          simp only [Bool.toNat_false] at w1
          cases c1 : gh W g (q 1) i
          · rw [c1] at w2 cf
            by_cases c3 : g 11 i = 0
            · have c2 : ¬ 0 < g 9 i := fun z => cf ⟨by rw [c3]; rfl, z⟩
              simp only [c2, c3, if_true, if_false, Bool.toNat_false] at w2 w3 w4
              simp (disch := omega) only [fX11_evening_b52, fX11_evening_b52w, fX11_evening_b115, zz_lt, li_0, li_1, li_2, li_3, li_4, li_5, li_6, li_7, li_8, li_9, li_10, li_11, li_12, li_15, li_16, li_20, li_21, li_24, li_25, li_26, li_32, li_33, li_38, li_40, li_41, li_42, li_43, li_45, li_47, li_48, li_57, li_58, li_59, li_60, li_61, li_62, li_63, li_74, li_75, li_84, li_91, li_93, li_98, li_100, li_103, li_105, li_107, li_109, li_110, li_111, li_112, li_115, li_118, li_119, li_120, li_121, li_124, li_140, li_180, li_206, li_240, li_255, li_420, li_520, li_999, li_1000, li_1771, li_8240, li_9999, li_88200, li_1000000, li_2097151, li_31, nI_add, pk_mul, zz_sub, zz_an, nI_clamp, zz_leT, zz_leF, zz_ltT, zz_ltF, zz_eqF, zz_eqT, zz_m1, zz_m2, zz_m3, zz_m4, zz_m5, zz_m6, zz_ck, zz_bl, zz_b3, zz_b2, zz_shl, zz_bt0, zz_bt1, pk_div, Nat.zero_add, Nat.add_zero, if_true, if_false, reduceIte, Nat.mul_zero, zz_or0, zz_inT, zz_inF, hm, w1, w2, w3, w4]
            · simp only [c3, if_true, if_false, Bool.toNat_false] at w2 w3
              simp (disch := omega) only [fX11_evening_b52, fX11_evening_b52w, fX11_evening_b115, zz_lt, li_0, li_1, li_2, li_3, li_4, li_5, li_6, li_7, li_8, li_9, li_10, li_11, li_12, li_15, li_16, li_20, li_21, li_24, li_25, li_26, li_32, li_33, li_38, li_40, li_41, li_42, li_43, li_45, li_47, li_48, li_57, li_58, li_59, li_60, li_61, li_62, li_63, li_74, li_75, li_84, li_91, li_93, li_98, li_100, li_103, li_105, li_107, li_109, li_110, li_111, li_112, li_115, li_118, li_119, li_120, li_121, li_124, li_140, li_180, li_206, li_240, li_255, li_420, li_520, li_999, li_1000, li_1771, li_8240, li_9999, li_88200, li_1000000, li_2097151, li_31, nI_add, pk_mul, zz_sub, zz_an, nI_clamp, zz_leT, zz_leF, zz_ltT, zz_ltF, zz_eqF, zz_eqT, zz_m1, zz_m2, zz_m3, zz_m4, zz_m5, zz_m6, zz_ck, zz_bl, zz_b3, zz_b2, zz_shl, zz_bt0, zz_bt1, pk_div, Nat.zero_add, Nat.add_zero, if_true, if_false, reduceIte, Nat.mul_zero, zz_or0, zz_inT, zz_inF, hm, w1, w2, w3]
          · rw [c1] at w2
            simp only [Bool.toNat_true] at w2
            simp (disch := omega) only [fX11_evening_b52, fX11_evening_b52w, fX11_evening_b115, zz_lt, li_0, li_1, li_2, li_3, li_4, li_5, li_6, li_7, li_8, li_9, li_10, li_11, li_12, li_15, li_16, li_20, li_21, li_24, li_25, li_26, li_32, li_33, li_38, li_40, li_41, li_42, li_43, li_45, li_47, li_48, li_57, li_58, li_59, li_60, li_61, li_62, li_63, li_74, li_75, li_84, li_91, li_93, li_98, li_100, li_103, li_105, li_107, li_109, li_110, li_111, li_112, li_115, li_118, li_119, li_120, li_121, li_124, li_140, li_180, li_206, li_240, li_255, li_420, li_520, li_999, li_1000, li_1771, li_8240, li_9999, li_88200, li_1000000, li_2097151, li_31, nI_add, pk_mul, zz_sub, zz_an, nI_clamp, zz_leT, zz_leF, zz_ltT, zz_ltF, zz_eqF, zz_eqT, zz_m1, zz_m2, zz_m3, zz_m4, zz_m5, zz_m6, zz_ck, zz_bl, zz_b3, zz_b2, zz_shl, zz_bt0, zz_bt1, pk_div, Nat.zero_add, Nat.add_zero, if_true, if_false, reduceIte, Nat.mul_zero, zz_or0, zz_inT, zz_inF, hm, w1, w2]
        · rw [← y2]
          simp (disch := omega) only [fX12_evening_b28, fX12_evening_b28w, fX12_evening_b59, zz_lt, li_0, li_1, li_2, li_3, li_4, li_5, li_6, li_7, li_8, li_9, li_10, li_11, li_12, li_15, li_16, li_20, li_21, li_24, li_25, li_26, li_32, li_33, li_38, li_40, li_41, li_42, li_43, li_45, li_47, li_48, li_57, li_58, li_59, li_60, li_61, li_62, li_63, li_74, li_75, li_84, li_91, li_93, li_98, li_100, li_103, li_105, li_107, li_109, li_110, li_111, li_112, li_115, li_118, li_119, li_120, li_121, li_124, li_140, li_180, li_206, li_240, li_255, li_420, li_520, li_999, li_1000, li_1771, li_8240, li_9999, li_88200, li_1000000, li_2097151, li_31, nI_add, pk_mul, zz_sub, zz_an, nI_clamp, zz_leT, zz_leF, zz_ltT, zz_ltF, zz_eqF, zz_eqT, zz_m1, zz_m2, zz_m3, zz_m4, zz_m5, zz_m6, zz_ck, zz_bl, zz_b3, zz_b2, zz_shl, zz_bt0, zz_bt1, pk_div, Nat.zero_add, Nat.add_zero, if_true, if_false, reduceIte, Nat.mul_zero, zz_or0, zz_inT, zz_inF, hm2, v1']
    · rw [co] at w1
      obtain ⟨I1, v1, v2⟩ := pm_evS h1 hl co n d (by omega) LM (j + 1) i (G + 1) IM (by omega) (by omega) h6 h7
      rw [hμ] at v1
      refine ⟨IC, I1, g, ?_, v1, DY_m h v2, SA_rf, rfl, ag_rf, ag_scM v2⟩
      simp (disch := omega) only [fX11_evening_b52, fX11_evening_b52w, zz_lt, li_0, li_1, li_2, li_3, li_4, li_5, li_6, li_7, li_8, li_9, li_10, li_11, li_12, li_15, li_16, li_20, li_21, li_24, li_25, li_26, li_32, li_33, li_38, li_40, li_41, li_42, li_43, li_45, li_47, li_48, li_57, li_58, li_59, li_60, li_61, li_62, li_63, li_74, li_75, li_84, li_91, li_93, li_98, li_100, li_103, li_105, li_107, li_109, li_110, li_111, li_112, li_115, li_118, li_119, li_120, li_121, li_124, li_140, li_180, li_206, li_240, li_255, li_420, li_520, li_999, li_1000, li_1771, li_8240, li_9999, li_88200, li_1000000, li_2097151, li_31, nI_add, pk_mul, zz_sub, zz_an, nI_clamp, zz_leT, zz_leF, zz_ltT, zz_ltF, zz_eqF, zz_eqT, zz_m1, zz_m2, zz_m3, zz_m4, zz_m5, zz_m6, zz_ck, zz_bl, zz_b3, zz_b2, zz_shl, zz_bt0, zz_bt1, pk_div, Nat.zero_add, Nat.add_zero, if_true, if_false, reduceIte, Nat.mul_zero, zz_or0, zz_inT, zz_inF, hm, w1, Bool.toNat_true]
theorem op_evening {IC : am_I} {LC : am_L} {IM : am_I} {W : Nat → (Nat → Nat) → Int32} {q : Nat → Nat} {g : Nat → Nat → Nat} {a : Nat} {K : Nat → Nat → Nat → Nat} {kw l : Nat → Nat} (h : DY IC LC IM W q g a K kw l) (LM : am_L) : am_act (fX11_evening am_N 1900 IC LC) (fX12_evening am_N 1900 IM LM) IC LC IM W q g := by
  obtain ⟨h1, hl, h3, h4, h5, h6, h7, h8, h9, h10⟩ := id h
  have gm := h1.1
  have gd := h1.2.2.2.2.1
  have hm := h3.1
  have hd := h3.2.2.2.2.1
  by_cases c0 : g 0 0 = 0
  · refine act_no (r := -nI 1) (LM := LM) h ag_rf ?_ ?_
    · simp (disch := omega) only [fX11_evening, zz_lt, li_0, li_1, li_2, li_3, li_4, li_5, li_6, li_7, li_8, li_9, li_10, li_11, li_12, li_15, li_16, li_20, li_21, li_24, li_25, li_26, li_32, li_33, li_38, li_40, li_41, li_42, li_43, li_45, li_47, li_48, li_57, li_58, li_59, li_60, li_61, li_62, li_63, li_74, li_75, li_84, li_91, li_93, li_98, li_100, li_103, li_105, li_107, li_109, li_110, li_111, li_112, li_115, li_118, li_119, li_120, li_121, li_124, li_140, li_180, li_206, li_240, li_255, li_420, li_520, li_999, li_1000, li_1771, li_8240, li_9999, li_88200, li_1000000, li_2097151, li_31, nI_add, pk_mul, zz_sub, zz_an, nI_clamp, zz_leT, zz_leF, zz_ltT, zz_ltF, zz_eqF, zz_eqT, zz_m1, zz_m2, zz_m3, zz_m4, zz_m5, zz_m6, zz_ck, zz_bl, zz_b3, zz_b2, zz_shl, zz_bt0, zz_bt1, pk_div, Nat.zero_add, Nat.add_zero, if_true, if_false, reduceIte, Nat.mul_zero, zz_or0, zz_inT, zz_inF, hm]
    · have w := pm_over0 am_N 1900 h6 LM c0
      simp (disch := omega) only [fX12_evening, zz_lt, li_0, li_1, li_2, li_3, li_4, li_5, li_6, li_7, li_8, li_9, li_10, li_11, li_12, li_15, li_16, li_20, li_21, li_24, li_25, li_26, li_32, li_33, li_38, li_40, li_41, li_42, li_43, li_45, li_47, li_48, li_57, li_58, li_59, li_60, li_61, li_62, li_63, li_74, li_75, li_84, li_91, li_93, li_98, li_100, li_103, li_105, li_107, li_109, li_110, li_111, li_112, li_115, li_118, li_119, li_120, li_121, li_124, li_140, li_180, li_206, li_240, li_255, li_420, li_520, li_999, li_1000, li_1771, li_8240, li_9999, li_88200, li_1000000, li_2097151, li_31, nI_add, pk_mul, zz_sub, zz_an, nI_clamp, zz_leT, zz_leF, zz_ltT, zz_ltF, zz_eqF, zz_eqT, zz_m1, zz_m2, zz_m3, zz_m4, zz_m5, zz_m6, zz_ck, zz_bl, zz_b3, zz_b2, zz_shl, zz_bt0, zz_bt1, pk_div, Nat.zero_add, Nat.add_zero, if_true, if_false, reduceIte, Nat.mul_zero, zz_or0, zz_inT, zz_inF, w]
  · have w1 := pc_over (W := W) (q := q) h1 am_N 1900 h3 h5 LC (by omega)
    obtain ⟨I1, v1, v2⟩ := pm_over h1 hl am_N 1900 am_N2 h6 h7 LM (by omega)
    have hdM := (MS_keep h6 v2).2.2.2.2.1
    cases co : g_over W g (q 1)
    · rw [co] at w1 v1
      by_cases c9 : g 0 4 = 9999
      · refine act_no (r := -nI 1) (LM := LM) h v2 ?_ ?_
        · simp (disch := omega) only [fX11_evening, zz_lt, li_0, li_1, li_2, li_3, li_4, li_5, li_6, li_7, li_8, li_9, li_10, li_11, li_12, li_15, li_16, li_20, li_21, li_24, li_25, li_26, li_32, li_33, li_38, li_40, li_41, li_42, li_43, li_45, li_47, li_48, li_57, li_58, li_59, li_60, li_61, li_62, li_63, li_74, li_75, li_84, li_91, li_93, li_98, li_100, li_103, li_105, li_107, li_109, li_110, li_111, li_112, li_115, li_118, li_119, li_120, li_121, li_124, li_140, li_180, li_206, li_240, li_255, li_420, li_520, li_999, li_1000, li_1771, li_8240, li_9999, li_88200, li_1000000, li_2097151, li_31, nI_add, pk_mul, zz_sub, zz_an, nI_clamp, zz_leT, zz_leF, zz_ltT, zz_ltF, zz_eqF, zz_eqT, zz_m1, zz_m2, zz_m3, zz_m4, zz_m5, zz_m6, zz_ck, zz_bl, zz_b3, zz_b2, zz_shl, zz_bt0, zz_bt1, pk_div, Nat.zero_add, Nat.add_zero, if_true, if_false, reduceIte, Nat.mul_zero, zz_or0, zz_inT, zz_inF, hm, w1, hd, Bool.toNat_false]
        · simp (disch := omega) only [fX12_evening, zz_lt, li_0, li_1, li_2, li_3, li_4, li_5, li_6, li_7, li_8, li_9, li_10, li_11, li_12, li_15, li_16, li_20, li_21, li_24, li_25, li_26, li_32, li_33, li_38, li_40, li_41, li_42, li_43, li_45, li_47, li_48, li_57, li_58, li_59, li_60, li_61, li_62, li_63, li_74, li_75, li_84, li_91, li_93, li_98, li_100, li_103, li_105, li_107, li_109, li_110, li_111, li_112, li_115, li_118, li_119, li_120, li_121, li_124, li_140, li_180, li_206, li_240, li_255, li_420, li_520, li_999, li_1000, li_1771, li_8240, li_9999, li_88200, li_1000000, li_2097151, li_31, nI_add, pk_mul, zz_sub, zz_an, nI_clamp, zz_leT, zz_leF, zz_ltT, zz_ltF, zz_eqF, zz_eqT, zz_m1, zz_m2, zz_m3, zz_m4, zz_m5, zz_m6, zz_ck, zz_bl, zz_b3, zz_b2, zz_shl, zz_bt0, zz_bt1, pk_div, Nat.zero_add, Nat.add_zero, if_true, if_false, reduceIte, Nat.mul_zero, zz_or0, zz_inT, zz_inF, v1, hdM, Bool.toNat_false]
      · obtain ⟨I2, L2, I3, x1, x2, x3, x4, x5, x6⟩ := dy_keep (DY_m h v2) am_N 1900 am_N3 LM
        obtain ⟨IC4, IM4, g4, y1, y2, y3, y4, y5, y6, y7⟩ := dy_evL am_N 1900 am_N3 L2 LM (g 0 0) 0 am_N am_N I2 I3 g (by omega) (by unfold am_N; omega) (by unfold am_N; omega) (by omega) x3 rfl
        obtain ⟨I5, I6, z1, z2, z3, z4, z5, z6⟩ := dy_end y3 (by omega) pW_last am_N 1900 am_N3 LM (by rw [y5]; omega)
        have u1 := z3.2.2.1.2.2.2.2.1
        have u2 := z3.2.2.2.2.2.1.2.2.2.2.1
        have m4 := y3.2.2.2.2.2.1.1
        rw [y4.2 0 (by omega)] at m4
        refine ⟨nI (gday g4 0 4), I5, L2, I6, LM, gday g4, _, _, _, _, ?_, ?_, z3, SA_tr y4 z4, ag_tr (ag_tr x4 y6) z5, x5, ag_tr (ag_tr (ag_tr (ag_scM v2) x6) y7) z6⟩
        · simp (disch := omega) only [fX11_evening, zz_lt, li_0, li_1, li_2, li_3, li_4, li_5, li_6, li_7, li_8, li_9, li_10, li_11, li_12, li_15, li_16, li_20, li_21, li_24, li_25, li_26, li_32, li_33, li_38, li_40, li_41, li_42, li_43, li_45, li_47, li_48, li_57, li_58, li_59, li_60, li_61, li_62, li_63, li_74, li_75, li_84, li_91, li_93, li_98, li_100, li_103, li_105, li_107, li_109, li_110, li_111, li_112, li_115, li_118, li_119, li_120, li_121, li_124, li_140, li_180, li_206, li_240, li_255, li_420, li_520, li_999, li_1000, li_1771, li_8240, li_9999, li_88200, li_1000000, li_2097151, li_31, nI_add, pk_mul, zz_sub, zz_an, nI_clamp, zz_leT, zz_leF, zz_ltT, zz_ltF, zz_eqF, zz_eqT, zz_m1, zz_m2, zz_m3, zz_m4, zz_m5, zz_m6, zz_ck, zz_bl, zz_b3, zz_b2, zz_shl, zz_bt0, zz_bt1, pk_div, Nat.zero_add, Nat.add_zero, if_true, if_false, reduceIte, Nat.mul_zero, zz_or0, zz_inT, zz_inF, hm, w1, hd, x1, Bool.toNat_false]
          rw [y1]
          simp (disch := omega) only [fX11_evening_b121, zz_lt, li_0, li_1, li_2, li_3, li_4, li_5, li_6, li_7, li_8, li_9, li_10, li_11, li_12, li_15, li_16, li_20, li_21, li_24, li_25, li_26, li_32, li_33, li_38, li_40, li_41, li_42, li_43, li_45, li_47, li_48, li_57, li_58, li_59, li_60, li_61, li_62, li_63, li_74, li_75, li_84, li_91, li_93, li_98, li_100, li_103, li_105, li_107, li_109, li_110, li_111, li_112, li_115, li_118, li_119, li_120, li_121, li_124, li_140, li_180, li_206, li_240, li_255, li_420, li_520, li_999, li_1000, li_1771, li_8240, li_9999, li_88200, li_1000000, li_2097151, li_31, nI_add, pk_mul, zz_sub, zz_an, nI_clamp, zz_leT, zz_leF, zz_ltT, zz_ltF, zz_eqF, zz_eqT, zz_m1, zz_m2, zz_m3, zz_m4, zz_m5, zz_m6, zz_ck, zz_bl, zz_b3, zz_b2, zz_shl, zz_bt0, zz_bt1, pk_div, Nat.zero_add, Nat.add_zero, if_true, if_false, reduceIte, Nat.mul_zero, zz_or0, zz_inT, zz_inF, z1, u1]
        · simp (disch := omega) only [fX12_evening, zz_lt, li_0, li_1, li_2, li_3, li_4, li_5, li_6, li_7, li_8, li_9, li_10, li_11, li_12, li_15, li_16, li_20, li_21, li_24, li_25, li_26, li_32, li_33, li_38, li_40, li_41, li_42, li_43, li_45, li_47, li_48, li_57, li_58, li_59, li_60, li_61, li_62, li_63, li_74, li_75, li_84, li_91, li_93, li_98, li_100, li_103, li_105, li_107, li_109, li_110, li_111, li_112, li_115, li_118, li_119, li_120, li_121, li_124, li_140, li_180, li_206, li_240, li_255, li_420, li_520, li_999, li_1000, li_1771, li_8240, li_9999, li_88200, li_1000000, li_2097151, li_31, nI_add, pk_mul, zz_sub, zz_an, nI_clamp, zz_leT, zz_leF, zz_ltT, zz_ltF, zz_eqF, zz_eqT, zz_m1, zz_m2, zz_m3, zz_m4, zz_m5, zz_m6, zz_ck, zz_bl, zz_b3, zz_b2, zz_shl, zz_bt0, zz_bt1, pk_div, Nat.zero_add, Nat.add_zero, if_true, if_false, reduceIte, Nat.mul_zero, zz_or0, zz_inT, zz_inF, v1, hdM, x2, Bool.toNat_false]
          rw [y2]
          simp (disch := omega) only [fX12_evening_b28w, zz_lt, li_0, li_1, li_2, li_3, li_4, li_5, li_6, li_7, li_8, li_9, li_10, li_11, li_12, li_15, li_16, li_20, li_21, li_24, li_25, li_26, li_32, li_33, li_38, li_40, li_41, li_42, li_43, li_45, li_47, li_48, li_57, li_58, li_59, li_60, li_61, li_62, li_63, li_74, li_75, li_84, li_91, li_93, li_98, li_100, li_103, li_105, li_107, li_109, li_110, li_111, li_112, li_115, li_118, li_119, li_120, li_121, li_124, li_140, li_180, li_206, li_240, li_255, li_420, li_520, li_999, li_1000, li_1771, li_8240, li_9999, li_88200, li_1000000, li_2097151, li_31, nI_add, pk_mul, zz_sub, zz_an, nI_clamp, zz_leT, zz_leF, zz_ltT, zz_ltF, zz_eqF, zz_eqT, zz_m1, zz_m2, zz_m3, zz_m4, zz_m5, zz_m6, zz_ck, zz_bl, zz_b3, zz_b2, zz_shl, zz_bt0, zz_bt1, pk_div, Nat.zero_add, Nat.add_zero, if_true, if_false, reduceIte, Nat.mul_zero, zz_or0, zz_inT, zz_inF, m4, z2, u2]
    · rw [co] at w1 v1
      refine act_no (r := -nI 1) (LM := LM) h v2 ?_ ?_
      · simp (disch := omega) only [fX11_evening, zz_lt, li_0, li_1, li_2, li_3, li_4, li_5, li_6, li_7, li_8, li_9, li_10, li_11, li_12, li_15, li_16, li_20, li_21, li_24, li_25, li_26, li_32, li_33, li_38, li_40, li_41, li_42, li_43, li_45, li_47, li_48, li_57, li_58, li_59, li_60, li_61, li_62, li_63, li_74, li_75, li_84, li_91, li_93, li_98, li_100, li_103, li_105, li_107, li_109, li_110, li_111, li_112, li_115, li_118, li_119, li_120, li_121, li_124, li_140, li_180, li_206, li_240, li_255, li_420, li_520, li_999, li_1000, li_1771, li_8240, li_9999, li_88200, li_1000000, li_2097151, li_31, nI_add, pk_mul, zz_sub, zz_an, nI_clamp, zz_leT, zz_leF, zz_ltT, zz_ltF, zz_eqF, zz_eqT, zz_m1, zz_m2, zz_m3, zz_m4, zz_m5, zz_m6, zz_ck, zz_bl, zz_b3, zz_b2, zz_shl, zz_bt0, zz_bt1, pk_div, Nat.zero_add, Nat.add_zero, if_true, if_false, reduceIte, Nat.mul_zero, zz_or0, zz_inT, zz_inF, hm, w1, Bool.toNat_true]
      · simp (disch := omega) only [fX12_evening, zz_lt, li_0, li_1, li_2, li_3, li_4, li_5, li_6, li_7, li_8, li_9, li_10, li_11, li_12, li_15, li_16, li_20, li_21, li_24, li_25, li_26, li_32, li_33, li_38, li_40, li_41, li_42, li_43, li_45, li_47, li_48, li_57, li_58, li_59, li_60, li_61, li_62, li_63, li_74, li_75, li_84, li_91, li_93, li_98, li_100, li_103, li_105, li_107, li_109, li_110, li_111, li_112, li_115, li_118, li_119, li_120, li_121, li_124, li_140, li_180, li_206, li_240, li_255, li_420, li_520, li_999, li_1000, li_1771, li_8240, li_9999, li_88200, li_1000000, li_2097151, li_31, nI_add, pk_mul, zz_sub, zz_an, nI_clamp, zz_leT, zz_leF, zz_ltT, zz_ltF, zz_eqF, zz_eqT, zz_m1, zz_m2, zz_m3, zz_m4, zz_m5, zz_m6, zz_ck, zz_bl, zz_b3, zz_b2, zz_shl, zz_bt0, zz_bt1, pk_div, Nat.zero_add, Nat.add_zero, if_true, if_false, reduceIte, Nat.mul_zero, zz_or0, zz_inT, zz_inF, v1, Bool.toNat_true]
