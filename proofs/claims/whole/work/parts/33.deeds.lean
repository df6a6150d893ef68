/-! PURE: deeds. -/
theorem J_max0 (n d x b : Nat) (I : am_I) (L : am_L) (hx : x < 1000000) (hb : b < 1000000) : fJ9_max_7cf53 n d (nI 0) (nI x - nI b) I L = some (nI (x - b), I, L) := by
  by_cases c : b ≤ x
  · rw [zz_sub c, J_max n d _ _ I L (by omega) (by omega), Nat.zero_max]
  · unfold fJ9_max_7cf53
    rw [if_neg, show x - b = 0 by omega]
    intro h
    have := Int32.lt_iff_toInt_lt.mp h
    rw [pk_sub_toInt (by omega) (by omega), nI_toInt (by omega)] at this
    omega
theorem pc_rest (n d : Nat) {I : am_I} (L : am_L) {s r : Nat} (hs : s ≤ 20) (h : I 12 s = nI r) : fX7_restAt n d (nI s) I L = some (nI r, I, L) := by
  simp (disch := omega) only [fX7_restAt, zz_lt, li_0, li_1, li_2, li_3, li_4, li_5, li_6, li_7, li_8, li_9, li_10, li_11, li_12, li_15, li_16, li_20, li_21, li_24, li_25, li_26, li_32, li_33, li_38, li_40, li_41, li_42, li_43, li_45, li_47, li_48, li_57, li_58, li_59, li_60, li_61, li_62, li_63, li_74, li_75, li_84, li_91, li_93, li_98, li_100, li_103, li_105, li_107, li_109, li_110, li_111, li_112, li_115, li_118, li_119, li_120, li_121, li_124, li_140, li_180, li_206, li_240, li_255, li_420, li_520, li_999, li_1000, li_1771, li_8240, li_9999, li_88200, li_1000000, li_2097151, li_31, nI_add, pk_mul, zz_sub, zz_an, nI_clamp, zz_leT, zz_leF, zz_ltT, zz_ltF, zz_eqF, zz_eqT, zz_m1, zz_m2, zz_m3, zz_m4, zz_m5, zz_m6, zz_ck, zz_bl, zz_b3, zz_b2, zz_shl, zz_bt0, zz_bt1, pk_div, Nat.zero_add, Nat.add_zero, if_true, if_false, reduceIte, Nat.mul_zero, zz_or0, zz_inT, zz_inF, h]
theorem pm_restL {g : Nat → Nat → Nat} {I : am_I} (gg : g 0 1 ≤ 6) (go : ∀ o, o < g 0 1 → g 7 o ≤ 20) (n d : Nat) (L : am_L) (h26 : I 0 26 = nI (g 0 1)) (o0 : ∀ m, m < g 0 1 → I 15 (2 * m) = nI (g 7 m)) (o1 : ∀ m, m < g 0 1 → I 15 (2 * m + 1) = nI (g 8 m)) {s : Nat} (hs : s ≤ 1000) : ∀ (j i F : Nat), i + j = g 0 1 → j < F → fX12_restAt_b2 n d F (nI s) (nI i) I L = some (nI (gR g s j i), I, L)
  | _, _, 0, _, f => by omega
  | 0, i, F + 1, e, f => by
    have e1 : i = g 0 1 := by omega
    subst e1
    simp (disch := omega) only [fX12_restAt_b2, fX12_restAt_b2w, zz_lt, li_0, li_1, li_2, li_3, li_4, li_5, li_6, li_7, li_8, li_9, li_10, li_11, li_12, li_15, li_16, li_20, li_21, li_24, li_25, li_26, li_32, li_33, li_38, li_40, li_41, li_42, li_43, li_45, li_47, li_48, li_57, li_58, li_59, li_60, li_61, li_62, li_63, li_74, li_75, li_84, li_91, li_93, li_98, li_100, li_103, li_105, li_107, li_109, li_110, li_111, li_112, li_115, li_118, li_119, li_120, li_121, li_124, li_140, li_180, li_206, li_240, li_255, li_420, li_520, li_999, li_1000, li_1771, li_8240, li_9999, li_88200, li_1000000, li_2097151, li_31, nI_add, pk_mul, zz_sub, zz_an, nI_clamp, zz_leT, zz_leF, zz_ltT, zz_ltF, zz_eqF, zz_eqT, zz_m1, zz_m2, zz_m3, zz_m4, zz_m5, zz_m6, zz_ck, zz_bl, zz_b3, zz_b2, zz_shl, zz_bt0, zz_bt1, pk_div, Nat.zero_add, Nat.add_zero, if_true, if_false, reduceIte, Nat.mul_zero, zz_or0, zz_inT, zz_inF, h26, gR]
  | j + 1, i, F + 1, e, f => by
    have ih := pm_restL gg go n d L h26 o0 o1 hs j (i + 1) F (by omega) (by omega)
    have b := go i (by omega)
    by_cases c : g 7 i = s
    · simp (disch := omega) only [fX12_restAt_b2, fX12_restAt_b2w, zz_lt, li_0, li_1, li_2, li_3, li_4, li_5, li_6, li_7, li_8, li_9, li_10, li_11, li_12, li_15, li_16, li_20, li_21, li_24, li_25, li_26, li_32, li_33, li_38, li_40, li_41, li_42, li_43, li_45, li_47, li_48, li_57, li_58, li_59, li_60, li_61, li_62, li_63, li_74, li_75, li_84, li_91, li_93, li_98, li_100, li_103, li_105, li_107, li_109, li_110, li_111, li_112, li_115, li_118, li_119, li_120, li_121, li_124, li_140, li_180, li_206, li_240, li_255, li_420, li_520, li_999, li_1000, li_1771, li_8240, li_9999, li_88200, li_1000000, li_2097151, li_31, nI_add, pk_mul, zz_sub, zz_an, nI_clamp, zz_leT, zz_leF, zz_ltT, zz_ltF, zz_eqF, zz_eqT, zz_m1, zz_m2, zz_m3, zz_m4, zz_m5, zz_m6, zz_ck, zz_bl, zz_b3, zz_b2, zz_shl, zz_bt0, zz_bt1, pk_div, Nat.zero_add, Nat.add_zero, if_true, if_false, reduceIte, Nat.mul_zero, zz_or0, zz_inT, zz_inF, h26, o0, o1, gR, c]
    · simp (disch := omega) only [fX12_restAt_b2, fX12_restAt_b2w, zz_lt, li_0, li_1, li_2, li_3, li_4, li_5, li_6, li_7, li_8, li_9, li_10, li_11, li_12, li_15, li_16, li_20, li_21, li_24, li_25, li_26, li_32, li_33, li_38, li_40, li_41, li_42, li_43, li_45, li_47, li_48, li_57, li_58, li_59, li_60, li_61, li_62, li_63, li_74, li_75, li_84, li_91, li_93, li_98, li_100, li_103, li_105, li_107, li_109, li_110, li_111, li_112, li_115, li_118, li_119, li_120, li_121, li_124, li_140, li_180, li_206, li_240, li_255, li_420, li_520, li_999, li_1000, li_1771, li_8240, li_9999, li_88200, li_1000000, li_2097151, li_31, nI_add, pk_mul, zz_sub, zz_an, nI_clamp, zz_leT, zz_leF, zz_ltT, zz_ltF, zz_eqF, zz_eqT, zz_m1, zz_m2, zz_m3, zz_m4, zz_m5, zz_m6, zz_ck, zz_bl, zz_b3, zz_b2, zz_shl, zz_bt0, zz_bt1, pk_div, Nat.zero_add, Nat.add_zero, if_true, if_false, reduceIte, Nat.mul_zero, zz_or0, zz_inT, zz_inF, h26, o0, o1, gR, c]
      exact ih
theorem pm_rest {g : Nat → Nat → Nat} {I : am_I} (hg : GW g) (h : MS I g) (n d : Nat) (hn : 8 < n) (L : am_L) {s : Nat} (hs : s ≤ 1000) : fX12_restAt n d (nI s) I L = some (nI (gRest g s), I, L) := by
  have gg := hg.2.1
  exact pm_restL gg (fun o ho => (hg.2.2.2.2.2.2.1 o ho).2.1) n d L h.2.1 h.2.2.2.2.2.2.2.2.2.2.2.1 h.2.2.2.2.2.2.2.2.2.2.2.2.1 hs (g 0 1) 0 n (by omega) (by omega)
theorem MS_rest {g : Nat → Nat → Nat} {I I' : am_I} (hg : GW g) (h : MS I g) (e26 : I' 0 26 = I 0 26) (e15 : I' 15 = I 15) (n d : Nat) (hn : 8 < n) (L : am_L) {s : Nat} (hs : s ≤ 1000) : fX12_restAt n d (nI s) I' L = some (nI (gRest g s), I', L) := by
  have gg := hg.2.1
  exact pm_restL gg (fun o ho => (hg.2.2.2.2.2.2.1 o ho).2.1) n d L (e26.trans h.2.1) (by rw [e15]; exact h.2.2.2.2.2.2.2.2.2.2.2.1) (by rw [e15]; exact h.2.2.2.2.2.2.2.2.2.2.2.2.1) hs (g 0 1) 0 n (by omega) (by omega)
/-- a man comes to a step -/
def gcm (g : Nat → Nat → Nat) (m s : Nat) : Nat → Nat → Nat := gu (gu g 9 m s) 10 m (gRest g s)
theorem gu_ne {g : Nat → Nat → Nat} {a j v p : Nat} (h : p ≠ a) : gu g a j v p = g p := by
  funext q
  unfold gu
  rw [if_neg (by omega)]
theorem gu_eq (g : Nat → Nat → Nat) (a j v k : Nat) : gu g a j v a k = if k = j then v else g a k := by
  unfold gu
  by_cases c : k = j
  · rw [if_pos ⟨rfl, c⟩, if_pos c]
  · rw [if_neg (fun h => c h.2), if_neg c]
theorem gu_sa {g : Nat → Nat → Nat} {a j v : Nat} (h : a = 9 ∨ a = 10 ∨ a = 11) : SA g (gu g a j v) := ⟨fun p h1 h2 h3 h4 => gu_ne (by omega), fun q hq => by rw [gu_ne (by omega)]⟩
theorem SA_tr {g g' g'' : Nat → Nat → Nat} (h : SA g g') (h2 : SA g' g'') : SA g g'' := ⟨fun p a b c e => (h2.1 p a b c e).trans (h.1 p a b c e), fun q hq => (h2.2 q hq).trans (h.2 q hq)⟩
theorem SA_rf {g : Nat → Nat → Nat} : SA g g := ⟨fun _ _ _ _ _ => rfl, fun _ _ => rfl⟩
theorem gcm_sa (g : Nat → Nat → Nat) (m s : Nat) : SA g (gcm g m s) := SA_tr (gu_sa (by omega)) (gu_sa (by omega))
theorem gcm_9 (g : Nat → Nat → Nat) (m s k : Nat) : gcm g m s 9 k = if k = m then s else g 9 k := by unfold gcm; rw [gu_ne (by omega), gu_eq]
theorem gcm_10 (g : Nat → Nat → Nat) (m s k : Nat) : gcm g m s 10 k = if k = m then gRest g s else g 10 k := by unfold gcm; rw [gu_eq, gu_ne (by omega)]
theorem gcm_11 (g : Nat → Nat → Nat) (m s : Nat) : gcm g m s 11 = g 11 := by unfold gcm; rw [gu_ne (by omega), gu_ne (by omega)]
theorem gcm_0 (g : Nat → Nat → Nat) (m s : Nat) : gcm g m s 0 = g 0 := by unfold gcm; rw [gu_ne (by omega), gu_ne (by omega)]
theorem gcm_w {g : Nat → Nat → Nat} (hg : GW g) {m s : Nat} (hs : s ≤ 20) : GW (gcm g m s) := by
  refine GW_mk hg (gcm_sa g m s) ⟨fun k hk => ?_, by rw [gcm_0]; exact hg.2.2.2.2.1⟩
  have := hg.2.2.2.2.2.2.2.2.1 k hk
  rw [gcm_9, gcm_10, gcm_11]
  by_cases c : k = m
  · rw [if_pos c, if_pos c]; exact ⟨hs, Nat.le_refl _, this.2.2⟩
  · rw [if_neg c, if_neg c]; exact this
theorem gu11_w {g : Nat → Nat → Nat} (hg : GW g) {m v : Nat} (hv : v ≤ 1) : GW (gu g 11 m v) := by
  refine GW_mk hg (gu_sa (by omega)) ⟨fun k hk => ?_, by rw [gu_ne (by omega)]; exact hg.2.2.2.2.1⟩
  have := hg.2.2.2.2.2.2.2.2.1 k hk
  rw [gu_ne (by omega), gu_ne (by omega), gu_eq]
  exact ⟨this.1, this.2.1, by split <;> omega⟩
theorem gu10_w {g : Nat → Nat → Nat} (hg : GW g) {m v : Nat} (hv : v ≤ g 10 m) : GW (gu g 10 m v) := by
  refine GW_mk hg (gu_sa (by omega)) ⟨fun k hk => ?_, by rw [gu_ne (by omega)]; exact hg.2.2.2.2.1⟩
  have := hg.2.2.2.2.2.2.2.2.1 k hk
  rw [gu_ne (p := 9) (by omega), gu_ne (p := 11) (by omega), gu_eq]
  refine ⟨this.1, ?_, this.2.2⟩
  split
  next e => subst e; omega
  · exact this.2.1
theorem CH_sa {W : Nat → (Nat → Nat) → Int32} {q : Nat → Nat} {g g' : Nat → Nat → Nat} {I I' : am_I} (h : CH I W q g) (sa : SA g g') (e : I' 39 6 = I 39 6) (h9 : g' 9 = g 9) (hd : g' 0 4 = g 0 4) : CH I' W q g' := by
  unfold CH
  rw [e, show I 39 6 = am_bits (gh W g (q 1)) (g 0 0) from h, sa.2 0 (by omega)]
  exact bits_ext (fun i _ => (gh_sa sa hd (by rw [h9]) _).symm)
theorem pc_move {g : Nat → Nat → Nat} {W : Nat → (Nat → Nat) → Int32} {q : Nat → Nat} (hg : GW g) (hl : GL q) (n d : Nat) (hn : 2000 < n) {I : am_I} (h : CS I g) (hL : CL I W q) (hH : CH I W q g) (L : am_L) {m b : Nat} (h2 : m < g 0 0) (hb : b ≤ 100) : ∃ I', fX7_move n d (nI m) (nI b) I L = some (I', L) ∧ CS I' (gcm g m (g 9 m - b)) ∧ CL I' W q ∧ CH I' W q (gcm g m (g 9 m - b)) ∧ am_ag sRd I I' := by
  have gm := hg.1
  have b9 := hg.2.2.2.2.2.2.2.2.1 m h2
  have h0 := h
  obtain ⟨hm, hgv, hp, ha, hd, t0, t1, t2, t3, t4, t5, o0, o1, r0, r1, hde, hra, hs0, hs1⟩ := h
  have hg' := gcm_w hg (m := m) (s := g 9 m - b) (by omega)
  have c1 : CS (am_up (am_up I 40 m (nI (g 9 m - b))) 41 m (nI (gRest g (g 9 m - b)))) (gcm g m (g 9 m - b)) := by
    refine CS_mk h0 (gcm_sa g m _) (fun k k1 k2 => by rw [am_up_ne (by omega), am_up_ne (by omega)]) ?_ (fun k hk => ?_) (fun k hk => ?_) ?_
    · rw [am_up_ne (by omega), am_up_ne (by omega), gcm_0]; exact hd
    · rw [am_up_ne (by omega), gcm_9]
      by_cases c : k = m
      · rw [up_s c, if_pos c]
      · rw [up_n c, if_neg c]; exact r0 k hk
    · rw [gcm_10]
      by_cases c : k = m
      · rw [up_s c, if_pos c]
      · rw [up_n c, if_neg c, am_up_ne (by omega)]; exact r1 k hk
    · rw [am_up_ne (by omega), am_up_ne (by omega), gcm_11]; exact hde
  have c2 : CL (am_up (am_up I 40 m (nI (g 9 m - b))) 41 m (nI (gRest g (g 9 m - b)))) W q := CL_up hl hL (fun k k1 k2 => by rw [am_up_ne (by omega), am_up_ne (by omega)])
  obtain ⟨I1, w1, w2, w3⟩ := pc_look hg' hl n d hn c1 c2 L (m := m) (by rw [gcm_0]; exact h2)
  rw [am_up_ne (by omega), am_up_ne (by omega)] at w3
  refine ⟨I1, ?_, CS_keepH c1 w2, CL_keep hl c2 w2, ?_, ag_tr (ag_up (ag_up ag_rf sRd_40) sRd_41) (ag_Rd w2)⟩
  · have jm := fun I L => J_max0 n d (g 9 m) b I L (by omega) (by omega)
    have rs := pc_rest n d (I := am_up I 40 m (nI (g 9 m - b))) L (s := g 9 m - b) (r := gRest g (g 9 m - b)) (by omega) (by rw [am_up_ne (by omega)]; exact hra _ (by omega))
    simp (disch := omega) only [fX7_move, zz_lt, li_0, li_1, li_2, li_3, li_4, li_5, li_6, li_7, li_8, li_9, li_10, li_11, li_12, li_15, li_16, li_20, li_21, li_24, li_25, li_26, li_32, li_33, li_38, li_40, li_41, li_42, li_43, li_45, li_47, li_48, li_57, li_58, li_59, li_60, li_61, li_62, li_63, li_74, li_75, li_84, li_91, li_93, li_98, li_100, li_103, li_105, li_107, li_109, li_110, li_111, li_112, li_115, li_118, li_119, li_120, li_121, li_124, li_140, li_180, li_206, li_240, li_255, li_420, li_520, li_999, li_1000, li_1771, li_8240, li_9999, li_88200, li_1000000, li_2097151, li_31, nI_add, pk_mul, zz_an, nI_clamp, zz_leT, zz_leF, zz_ltT, zz_ltF, zz_eqF, zz_eqT, zz_m1, zz_m2, zz_m3, zz_m4, zz_m5, zz_m6, zz_ck, zz_bl, zz_b3, zz_b2, zz_shl, zz_bt0, zz_bt1, pk_div, Nat.zero_add, Nat.add_zero, if_true, if_false, reduceIte, Nat.mul_zero, zz_or0, zz_inT, zz_inF, r0, jm, up_s, rs, w1]
  · refine CH_mk hg' (fun k hk => ?_) (fun k hk hk2 => ?_)
    · rw [gcm_0] at hk
      rw [w3, bt_sb _ _ (by omega) (by omega)]
      by_cases c : k = m
      · rw [if_pos c, c]
      · rw [if_neg c, CH_lo hg hH k hk]
        exact (gh_sa (gcm_sa g m _) (by rw [gcm_0]) (by rw [gcm_9, if_neg c]) _).symm
    · rw [gcm_0] at hk
      rw [w3, bt_sb _ _ (by omega) hk2, if_neg (by omega)]
      exact CH_hi hg hH k hk hk2
theorem sRd_394 : sRd 39 4 = true := rfl
theorem sRd_395 : sRd 39 5 = true := rfl
theorem pc_mark {g : Nat → Nat → Nat} {W : Nat → (Nat → Nat) → Int32} {q : Nat → Nat} (hg : GW g) (hl : GL q) (n d : Nat) {I : am_I} (h : CS I g) (hL : CL I W q) (hH : CH I W q g) (L : am_L) {m : Nat} (h2 : m < g 0 0) : ∃ I', fX7_markDeed n d (nI m) I L = some (I', L) ∧ CS I' (gu g 11 m 1) ∧ CL I' W q ∧ CH I' W q (gu g 11 m 1) ∧ am_ag sRd I I' := by
  have gm := hg.1
  have h0 := h
  obtain ⟨hm, hgv, hp, ha, hd, t0, t1, t2, t3, t4, t5, o0, o1, r0, r1, hde, hra, hs0, hs1⟩ := h
  refine ⟨am_up I 39 4 (I 39 4 ||| nI (2 ^ m)), ?_, ?_, ?_, ?_, ag_up ag_rf sRd_394⟩
  · simp (disch := omega) only [fX7_markDeed, zz_lt, li_0, li_1, li_2, li_3, li_4, li_5, li_6, li_7, li_8, li_9, li_10, li_11, li_12, li_15, li_16, li_20, li_21, li_24, li_25, li_26, li_32, li_33, li_38, li_40, li_41, li_42, li_43, li_45, li_47, li_48, li_57, li_58, li_59, li_60, li_61, li_62, li_63, li_74, li_75, li_84, li_91, li_93, li_98, li_100, li_103, li_105, li_107, li_109, li_110, li_111, li_112, li_115, li_118, li_119, li_120, li_121, li_124, li_140, li_180, li_206, li_240, li_255, li_420, li_520, li_999, li_1000, li_1771, li_8240, li_9999, li_88200, li_1000000, li_2097151, li_31, nI_add, pk_mul, zz_sub, zz_an, nI_clamp, zz_leT, zz_leF, zz_ltT, zz_ltF, zz_eqF, zz_eqT, zz_m1, zz_m2, zz_m3, zz_m4, zz_m5, zz_m6, zz_ck, zz_bl, zz_b3, zz_b2, zz_shl, zz_bt0, zz_bt1, pk_div, Nat.zero_add, Nat.add_zero, if_true, if_false, reduceIte, Nat.mul_zero, zz_or0, zz_inT, zz_inF]
  · refine CS_mk h0 (gu_sa (by omega)) (fun k k1 k2 => by rw [am_up_ne (by omega)]) ?_ (fun k hk => ?_) (fun k hk => ?_) ?_
    · rw [up_n (by omega), gu_ne (by omega)]; exact hd
    · rw [am_up_ne (by omega), gu_ne (by omega)]; exact r0 k hk
    · rw [am_up_ne (by omega), gu_ne (by omega)]; exact r1 k hk
    · rw [up_s rfl, hde]
      apply b_ext
      intro i hi
      rw [b_or, bt_bits _ _ (by omega) _ hi, bt_bits _ _ (by omega) _ hi, bt_pow m (by omega) i hi, gu_eq]
      by_cases c : i = m
      · subst c; simp [h2]
      · simp [c]
  · exact CL_up hl hL (fun k k1 k2 => by rw [am_up_ne (by omega)])
  · exact CH_sa hH (gu_sa (by omega)) (up_n (by omega)) (gu_ne (by omega)) (by rw [gu_ne (by omega)])
theorem pc_spend {g : Nat → Nat → Nat} {W : Nat → (Nat → Nat) → Int32} {q : Nat → Nat} (hg : GW g) (hl : GL q) (n d : Nat) {I : am_I} (h : CS I g) (hL : CL I W q) (hH : CH I W q g) (L : am_L) {m : Nat} (h2 : m < g 0 0) (h10 : 0 < g 10 m) : ∃ I', fX7_spendRest n d (nI m) I L = some (I', L) ∧ CS I' (gu g 10 m (g 10 m - 1)) ∧ CL I' W q ∧ CH I' W q (gu g 10 m (g 10 m - 1)) ∧ am_ag sRd I I' := by
  have gm := hg.1
  have h0 := h
  obtain ⟨hm, hgv, hp, ha, hd, t0, t1, t2, t3, t4, t5, o0, o1, r0, r1, hde, hra, hs0, hs1⟩ := h
  refine ⟨am_up I 41 m (nI (g 10 m - 1)), ?_, ?_, ?_, ?_, ag_up ag_rf sRd_41⟩
  · simp (disch := omega) only [fX7_spendRest, zz_lt, li_0, li_1, li_2, li_3, li_4, li_5, li_6, li_7, li_8, li_9, li_10, li_11, li_12, li_15, li_16, li_20, li_21, li_24, li_25, li_26, li_32, li_33, li_38, li_40, li_41, li_42, li_43, li_45, li_47, li_48, li_57, li_58, li_59, li_60, li_61, li_62, li_63, li_74, li_75, li_84, li_91, li_93, li_98, li_100, li_103, li_105, li_107, li_109, li_110, li_111, li_112, li_115, li_118, li_119, li_120, li_121, li_124, li_140, li_180, li_206, li_240, li_255, li_420, li_520, li_999, li_1000, li_1771, li_8240, li_9999, li_88200, li_1000000, li_2097151, li_31, nI_add, pk_mul, zz_sub, zz_an, nI_clamp, zz_leT, zz_leF, zz_ltT, zz_ltF, zz_eqF, zz_eqT, zz_m1, zz_m2, zz_m3, zz_m4, zz_m5, zz_m6, zz_ck, zz_bl, zz_b3, zz_b2, zz_shl, zz_bt0, zz_bt1, pk_div, Nat.zero_add, Nat.add_zero, if_true, if_false, reduceIte, Nat.mul_zero, zz_or0, zz_inT, zz_inF, r1]
  · refine CS_mk h0 (gu_sa (by omega)) (fun k k1 k2 => by rw [am_up_ne (by omega)]) ?_ (fun k hk => ?_) (fun k hk => ?_) ?_
    · rw [am_up_ne (by omega), gu_ne (by omega)]; exact hd
    · rw [am_up_ne (by omega), gu_ne (by omega)]; exact r0 k hk
    · rw [gu_eq]
      by_cases c : k = m
      · rw [up_s c, if_pos c]
      · rw [up_n c, if_neg c]; exact r1 k hk
    · rw [am_up_ne (by omega), gu_ne (by omega)]; exact hde
  · exact CL_up hl hL (fun k k1 k2 => by rw [am_up_ne (by omega)])
  · exact CH_sa hH (gu_sa (by omega)) (by rw [am_up_ne (by omega)]) (gu_ne (by omega)) (by rw [gu_ne (by omega)])
/-- may a man act -/
def g_free (W : Nat → (Nat → Nat) → Int32) (g : Nat → Nat → Nat) (l m : Nat) : Bool := !gh W g l m && decide (g 11 m = 0) && !g_over W g l
theorem pc_did {g : Nat → Nat → Nat} (hg : GW g) (n d : Nat) {I : am_I} (h : CS I g) (L : am_L) {m : Nat} (h2 : m < g 0 0) : fX7_didDeed n d (nI m) I L = some (if g 11 m = 0 then nI 0 else nI 1, I, L) := by
  have gm := hg.1
  have b := hg.2.2.2.2.2.2.2.2.1 m h2
  obtain ⟨hm, hgv, hp, ha, hd, t0, t1, t2, t3, t4, t5, o0, o1, r0, r1, hde, hra, hs0, hs1⟩ := h
  have e : bt (I 39 4) m = decide (g 11 m = 1) := by
    rw [hde, bt_bits _ _ (by omega) _ (by omega)]
    simp [h2]
  by_cases c : g 11 m = 0
  · rw [decide_eq_false (by omega)] at e
    simp (disch := omega) only [fX7_didDeed, zz_lt, li_0, li_1, li_2, li_3, li_4, li_5, li_6, li_7, li_8, li_9, li_10, li_11, li_12, li_15, li_16, li_20, li_21, li_24, li_25, li_26, li_32, li_33, li_38, li_40, li_41, li_42, li_43, li_45, li_47, li_48, li_57, li_58, li_59, li_60, li_61, li_62, li_63, li_74, li_75, li_84, li_91, li_93, li_98, li_100, li_103, li_105, li_107, li_109, li_110, li_111, li_112, li_115, li_118, li_119, li_120, li_121, li_124, li_140, li_180, li_206, li_240, li_255, li_420, li_520, li_999, li_1000, li_1771, li_8240, li_9999, li_88200, li_1000000, li_2097151, li_31, nI_add, pk_mul, zz_sub, zz_an, nI_clamp, zz_leT, zz_leF, zz_ltT, zz_ltF, zz_eqF, zz_eqT, zz_m1, zz_m2, zz_m3, zz_m4, zz_m5, zz_m6, zz_ck, zz_bl, zz_b3, zz_b2, zz_shl, zz_bt0, zz_bt1, pk_div, Nat.zero_add, Nat.add_zero, if_true, if_false, reduceIte, Nat.mul_zero, zz_or0, zz_inT, zz_inF, e, c]
  · rw [decide_eq_true (by omega)] at e
    simp (disch := omega) only [fX7_didDeed, zz_lt, li_0, li_1, li_2, li_3, li_4, li_5, li_6, li_7, li_8, li_9, li_10, li_11, li_12, li_15, li_16, li_20, li_21, li_24, li_25, li_26, li_32, li_33, li_38, li_40, li_41, li_42, li_43, li_45, li_47, li_48, li_57, li_58, li_59, li_60, li_61, li_62, li_63, li_74, li_75, li_84, li_91, li_93, li_98, li_100, li_103, li_105, li_107, li_109, li_110, li_111, li_112, li_115, li_118, li_119, li_120, li_121, li_124, li_140, li_180, li_206, li_240, li_255, li_420, li_520, li_999, li_1000, li_1771, li_8240, li_9999, li_88200, li_1000000, li_2097151, li_31, nI_add, pk_mul, zz_sub, zz_an, nI_clamp, zz_leT, zz_leF, zz_ltT, zz_ltF, zz_eqF, zz_eqT, zz_m1, zz_m2, zz_m3, zz_m4, zz_m5, zz_m6, zz_ck, zz_bl, zz_b3, zz_b2, zz_shl, zz_bt0, zz_bt1, pk_div, Nat.zero_add, Nat.add_zero, if_true, if_false, reduceIte, Nat.mul_zero, zz_or0, zz_inT, zz_inF, e, c, Bool.true_eq_false]
theorem pc_may1 {g : Nat → Nat → Nat} {W : Nat → (Nat → Nat) → Int32} {q : Nat → Nat} (hg : GW g) (n d : Nat) {I : am_I} (h : CS I g) (hH : CH I W q g) (L : am_L) {m : Nat} (h2 : m < g 0 0) : fX7_mayAct n d (nI m) I L = some (nI (g_free W g (q 1) m).toNat, I, L) := by
  have w1 := pc_man1 hg h n d L h2
  have w2 := pc_home (W := W) (q := q) hg n d hH L h2
  have w3 := pc_did hg n d h L h2
  have w4 := pc_over (W := W) (q := q) hg n d h hH L (by omega)
  unfold g_free
  cases c1 : gh W g (q 1) m <;> cases c3 : g_over W g (q 1) <;> by_cases c2 : g 11 m = 0 <;> (rw [c1] at w2; rw [c3] at w4; simp (disch := omega) only [c2, if_true, if_false, Bool.toNat_true, Bool.toNat_false] at w2 w3 w4; simp (disch := omega) only [fX7_mayAct, zz_lt, li_0, li_1, li_2, li_3, li_4, li_5, li_6, li_7, li_8, li_9, li_10, li_11, li_12, li_15, li_16, li_20, li_21, li_24, li_25, li_26, li_32, li_33, li_38, li_40, li_41, li_42, li_43, li_45, li_47, li_48, li_57, li_58, li_59, li_60, li_61, li_62, li_63, li_74, li_75, li_84, li_91, li_93, li_98, li_100, li_103, li_105, li_107, li_109, li_110, li_111, li_112, li_115, li_118, li_119, li_120, li_121, li_124, li_140, li_180, li_206, li_240, li_255, li_420, li_520, li_999, li_1000, li_1771, li_8240, li_9999, li_88200, li_1000000, li_2097151, li_31, nI_add, pk_mul, zz_sub, zz_an, nI_clamp, zz_leT, zz_leF, zz_ltT, zz_ltF, zz_eqF, zz_eqT, zz_m1, zz_m2, zz_m3, zz_m4, zz_m5, zz_m6, zz_ck, zz_bl, zz_b3, zz_b2, zz_shl, zz_bt0, zz_bt1, pk_div, Nat.zero_add, Nat.add_zero, if_true, if_false, reduceIte, Nat.mul_zero, zz_or0, zz_inT, zz_inF, w1, w2, w3, w4, c2, decide_true, decide_false, Bool.not_true, Bool.not_false, Bool.and_true, Bool.and_false, Bool.true_and, Bool.false_and, Bool.toNat_true, Bool.toNat_false])
theorem pc_may0 {g : Nat → Nat → Nat} (hg : GW g) (n d : Nat) {I : am_I} (h : CS I g) (L : am_L) {e : Int32} (he : e < nI 0 ∨ nI (g 0 0) ≤ e) : fX7_mayAct n d e I L = some (nI 0, I, L) := by
  have w1 := pc_man0 hg h n d L he
  simp (disch := omega) only [fX7_mayAct, zz_lt, li_0, li_1, li_2, li_3, li_4, li_5, li_6, li_7, li_8, li_9, li_10, li_11, li_12, li_15, li_16, li_20, li_21, li_24, li_25, li_26, li_32, li_33, li_38, li_40, li_41, li_42, li_43, li_45, li_47, li_48, li_57, li_58, li_59, li_60, li_61, li_62, li_63, li_74, li_75, li_84, li_91, li_93, li_98, li_100, li_103, li_105, li_107, li_109, li_110, li_111, li_112, li_115, li_118, li_119, li_120, li_121, li_124, li_140, li_180, li_206, li_240, li_255, li_420, li_520, li_999, li_1000, li_1771, li_8240, li_9999, li_88200, li_1000000, li_2097151, li_31, nI_add, pk_mul, zz_sub, zz_an, nI_clamp, zz_leT, zz_leF, zz_ltT, zz_ltF, zz_eqF, zz_eqT, zz_m1, zz_m2, zz_m3, zz_m4, zz_m5, zz_m6, zz_ck, zz_bl, zz_b3, zz_b2, zz_shl, zz_bt0, zz_bt1, pk_div, Nat.zero_add, Nat.add_zero, if_true, if_false, reduceIte, Nat.mul_zero, zz_or0, zz_inT, zz_inF, w1]
theorem pm_free {g : Nat → Nat → Nat} {W : Nat → (Nat → Nat) → Int32} {q : Nat → Nat} (hg : GW g) (hl : GL q) (n d : Nat) (hn : 2000 < n) {I : am_I} (h : MS I g) (hL : ML I W q) (L : am_L) {m : Nat} (h2 : m < g 0 0) : ∃ I', fX12_isFree n d (nI m) I L = some (nI (g_free W g (q 1) m).toNat, I', L) ∧ am_ag scrM I I' := by
  have gm := hg.1
  have b := hg.2.2.2.2.2.2.2.2.1 m h2
  have w1 := pm_man1 hg h n d L h2
  obtain ⟨I1, w2, w3⟩ := pm_over hg hl n d hn h hL L (by omega)
  obtain ⟨I2, w4, w5⟩ := pm_home hg hl n d hn (MS_keep h w3) (ML_keep hl hL w3) L h2
  have r2 := (MS_keep (MS_keep h w3) w5).2.2.2.2.2.2.2.2.2.2.2.2.2.2.2 m h2
  unfold g_free
  cases c3 : g_over W g (q 1)
  · rw [c3] at w2
    cases c1 : gh W g (q 1) m
    · rw [c1] at w4
      refine ⟨I2, ?_, ag_tr w3 w5⟩
      by_cases c2 : g 11 m = 0 <;> simp (disch := omega) only [fX12_isFree, zz_lt, li_0, li_1, li_2, li_3, li_4, li_5, li_6, li_7, li_8, li_9, li_10, li_11, li_12, li_15, li_16, li_20, li_21, li_24, li_25, li_26, li_32, li_33, li_38, li_40, li_41, li_42, li_43, li_45, li_47, li_48, li_57, li_58, li_59, li_60, li_61, li_62, li_63, li_74, li_75, li_84, li_91, li_93, li_98, li_100, li_103, li_105, li_107, li_109, li_110, li_111, li_112, li_115, li_118, li_119, li_120, li_121, li_124, li_140, li_180, li_206, li_240, li_255, li_420, li_520, li_999, li_1000, li_1771, li_8240, li_9999, li_88200, li_1000000, li_2097151, li_31, nI_add, pk_mul, zz_sub, zz_an, nI_clamp, zz_leT, zz_leF, zz_ltT, zz_ltF, zz_eqF, zz_eqT, zz_m1, zz_m2, zz_m3, zz_m4, zz_m5, zz_m6, zz_ck, zz_bl, zz_b3, zz_b2, zz_shl, zz_bt0, zz_bt1, pk_div, Nat.zero_add, Nat.add_zero, if_true, if_false, reduceIte, Nat.mul_zero, zz_or0, zz_inT, zz_inF, w1, w2, w4, r2, c2, decide_true, decide_false, Bool.not_true, Bool.not_false, Bool.and_true, Bool.and_false, Bool.true_and, Bool.false_and, Bool.toNat_true, Bool.toNat_false]
    · rw [c1] at w4
      refine ⟨I2, ?_, ag_tr w3 w5⟩
      simp (disch := omega) only [fX12_isFree, zz_lt, li_0, li_1, li_2, li_3, li_4, li_5, li_6, li_7, li_8, li_9, li_10, li_11, li_12, li_15, li_16, li_20, li_21, li_24, li_25, li_26, li_32, li_33, li_38, li_40, li_41, li_42, li_43, li_45, li_47, li_48, li_57, li_58, li_59, li_60, li_61, li_62, li_63, li_74, li_75, li_84, li_91, li_93, li_98, li_100, li_103, li_105, li_107, li_109, li_110, li_111, li_112, li_115, li_118, li_119, li_120, li_121, li_124, li_140, li_180, li_206, li_240, li_255, li_420, li_520, li_999, li_1000, li_1771, li_8240, li_9999, li_88200, li_1000000, li_2097151, li_31, nI_add, pk_mul, zz_sub, zz_an, nI_clamp, zz_leT, zz_leF, zz_ltT, zz_ltF, zz_eqF, zz_eqT, zz_m1, zz_m2, zz_m3, zz_m4, zz_m5, zz_m6, zz_ck, zz_bl, zz_b3, zz_b2, zz_shl, zz_bt0, zz_bt1, pk_div, Nat.zero_add, Nat.add_zero, if_true, if_false, reduceIte, Nat.mul_zero, zz_or0, zz_inT, zz_inF, w1, w2, w4, Bool.not_true, Bool.not_false, Bool.and_true, Bool.and_false, Bool.true_and, Bool.false_and, Bool.toNat_true, Bool.toNat_false]
  · rw [c3] at w2
    refine ⟨I1, ?_, w3⟩
    simp (disch := omega) only [fX12_isFree, zz_lt, li_0, li_1, li_2, li_3, li_4, li_5, li_6, li_7, li_8, li_9, li_10, li_11, li_12, li_15, li_16, li_20, li_21, li_24, li_25, li_26, li_32, li_33, li_38, li_40, li_41, li_42, li_43, li_45, li_47, li_48, li_57, li_58, li_59, li_60, li_61, li_62, li_63, li_74, li_75, li_84, li_91, li_93, li_98, li_100, li_103, li_105, li_107, li_109, li_110, li_111, li_112, li_115, li_118, li_119, li_120, li_121, li_124, li_140, li_180, li_206, li_240, li_255, li_420, li_520, li_999, li_1000, li_1771, li_8240, li_9999, li_88200, li_1000000, li_2097151, li_31, nI_add, pk_mul, zz_sub, zz_an, nI_clamp, zz_leT, zz_leF, zz_ltT, zz_ltF, zz_eqF, zz_eqT, zz_m1, zz_m2, zz_m3, zz_m4, zz_m5, zz_m6, zz_ck, zz_bl, zz_b3, zz_b2, zz_shl, zz_bt0, zz_bt1, pk_div, Nat.zero_add, Nat.add_zero, if_true, if_false, reduceIte, Nat.mul_zero, zz_or0, zz_inT, zz_inF, w1, w2, Bool.not_true, Bool.not_false, Bool.and_true, Bool.and_false, Bool.true_and, Bool.false_and, Bool.toNat_true, Bool.toNat_false]
theorem pm_free0 {g : Nat → Nat → Nat} (hg : GW g) (n d : Nat) {I : am_I} (h : MS I g) (L : am_L) {e : Int32} (he : e < nI 0 ∨ nI (g 0 0) ≤ e) : fX12_isFree n d e I L = some (nI 0, I, L) := by
  have w1 := pm_man0 hg h n d L he
  simp (disch := omega) only [fX12_isFree, zz_lt, li_0, li_1, li_2, li_3, li_4, li_5, li_6, li_7, li_8, li_9, li_10, li_11, li_12, li_15, li_16, li_20, li_21, li_24, li_25, li_26, li_32, li_33, li_38, li_40, li_41, li_42, li_43, li_45, li_47, li_48, li_57, li_58, li_59, li_60, li_61, li_62, li_63, li_74, li_75, li_84, li_91, li_93, li_98, li_100, li_103, li_105, li_107, li_109, li_110, li_111, li_112, li_115, li_118, li_119, li_120, li_121, li_124, li_140, li_180, li_206, li_240, li_255, li_420, li_520, li_999, li_1000, li_1771, li_8240, li_9999, li_88200, li_1000000, li_2097151, li_31, nI_add, pk_mul, zz_sub, zz_an, nI_clamp, zz_leT, zz_leF, zz_ltT, zz_ltF, zz_eqF, zz_eqT, zz_m1, zz_m2, zz_m3, zz_m4, zz_m5, zz_m6, zz_ck, zz_bl, zz_b3, zz_b2, zz_shl, zz_bt0, zz_bt1, pk_div, Nat.zero_add, Nat.add_zero, if_true, if_false, reduceIte, Nat.mul_zero, zz_or0, zz_inT, zz_inF, w1]
theorem MS_keepN {g : Nat → Nat → Nat} {I I' : am_I} (hg : GW g) (h : MS I g) (a : am_ag sN I I') : MS I' g := by
  have b := hg.1
  have f : ∀ j, j < 25 → I' 17 j = I 17 j := fun j hj => a 17 j (by simp [sN]; omega)
  obtain ⟨hm, hgv, hp, ha, hd, t0, t1, t2, t3, t4, t5, o0, o1, r0, r1, r2⟩ := id h
  exact MS_mk h SA_rf (a 0 25 rfl) (a 0 26 rfl) (fun k k1 k2 => funext (fun j => a k j (by unfold sN; split <;> first | omega | rfl))) ((f _ (by omega)).trans hd) (fun m hm => (f _ (by omega)).trans (r0 m hm)) (fun m hm => (f _ (by omega)).trans (r1 m hm)) (fun m hm => (f _ (by omega)).trans (r2 m hm))
