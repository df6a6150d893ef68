/-! PURE: duels: getting ready; duel, treaty. -/
theorem pc_placeOf {g : Nat → Nat → Nat} (hg : GW g) (n d : Nat) {I : am_I} (h : CS I g) (hD : DL I g) (L : am_L) {m : Nat} (hm : m < g 0 0) : fX11_placeOf n d (nI m) I L = some (nI (plc g (g 9 m) (g 10 m)), I, L) := by
  have men := hg.1
  have rr := hg.2.2.2.2.2.2.2.2.1 m hm
  have r0 := h.2.2.2.2.2.2.2.2.2.2.2.2.2.1 m hm
  have r1 := h.2.2.2.2.2.2.2.2.2.2.2.2.2.2.1 m hm
  have l := (hD (g 9 m) rr.1).1
  unfold plc
  simp (disch := omega) only [fX11_placeOf, fX0_place, zz_lt, li_0, li_1, li_2, li_3, li_4, li_5, li_6, li_7, li_8, li_9, li_10, li_11, li_12, li_15, li_16, li_20, li_21, li_24, li_25, li_26, li_32, li_33, li_38, li_40, li_41, li_42, li_43, li_45, li_47, li_48, li_57, li_58, li_59, li_60, li_61, li_62, li_63, li_74, li_75, li_84, li_91, li_93, li_98, li_100, li_103, li_105, li_107, li_109, li_110, li_111, li_112, li_115, li_118, li_119, li_120, li_121, li_124, li_140, li_180, li_206, li_240, li_255, li_420, li_520, li_999, li_1000, li_1771, li_8240, li_9999, li_88200, li_1000000, li_2097151, li_31, nI_add, pk_mul, zz_sub, zz_an, nI_clamp, zz_leT, zz_leF, zz_ltT, zz_ltF, zz_eqF, zz_eqT, zz_m1, zz_m2, zz_m3, zz_m4, zz_m5, zz_m6, zz_ck, zz_bl, zz_b3, zz_b2, zz_shl, zz_bt0, zz_bt1, pk_div, Nat.zero_add, Nat.add_zero, if_true, if_false, reduceIte, Nat.mul_zero, zz_or0, zz_inT, zz_inF, r0, r1, l]
def fmx (g : Nat → Nat → Nat) (x : Nat) : Nat → Nat
  | 0 => 0
  | i + 1 => if g 3 i = x then max (fmx g x i) (plc g (g 9 i) (g 10 i)) else fmx g x i
theorem fmx_lt {g : Nat → Nat → Nat} (hg : GW g) (x : Nat) : ∀ i, i ≤ g 0 0 → fmx g x i < lwS g 21
  | 0, _ => by
    have := lwS_m g (a := 0) (b := 21) (by omega)
    show 0 < lwS g 21
    omega
  | i + 1, h => by
    have ih := fmx_lt hg x i (by omega)
    have rr := hg.2.2.2.2.2.2.2.2.1 i (by omega)
    have p := plc_lt g (a := g 9 i) (b := 21) (by omega)
    have u : plc g (g 9 i) (g 10 i) = lwS g (g 9 i) + g 10 i := rfl
    have u2 : plc g (g 9 i) (gRest g (g 9 i)) = lwS g (g 9 i) + gRest g (g 9 i) := rfl
    unfold fmx
    split
    · rw [Nat.max_def]; split <;> omega
    · exact ih
theorem fmx_ge (g : Nat → Nat → Nat) (x : Nat) : ∀ i m, m < i → g 3 m = x → plc g (g 9 m) (g 10 m) ≤ fmx g x i
  | 0, m, h, _ => by omega
  | i + 1, m, h, e => by
    unfold fmx
    by_cases c : m = i
    · subst c
      rw [if_pos e]
      exact Nat.le_max_right _ _
    · have ih := fmx_ge g x i m (by omega) e
      split
      · exact Nat.le_trans ih (Nat.le_max_left _ _)
      · exact ih
theorem pc_fplL {g : Nat → Nat → Nat} (hg : GW g) (n d : Nat) {I : am_I} (h : CS I g) (hD : DL I g) (L : am_L) {x : Nat} (hx : x ≤ 5) : ∀ (j i F : Nat), i + j = g 0 0 → j < F → fX11_farthestPlace_b4 n d F (nI x) (nI (fmx g x i)) (nI i) I L = some (nI (fmx g x (g 0 0)), I, L)
  | _, _, 0, _, f => by omega
  | 0, i, F + 1, e, f => by
    have e1 : i = g 0 0 := by omega
    subst e1
    have men := hg.1
    have hm := h.1
    simp (disch := omega) only [fX11_farthestPlace_b4, fX11_farthestPlace_b4w, zz_lt, li_0, li_1, li_2, li_3, li_4, li_5, li_6, li_7, li_8, li_9, li_10, li_11, li_12, li_15, li_16, li_20, li_21, li_24, li_25, li_26, li_32, li_33, li_38, li_40, li_41, li_42, li_43, li_45, li_47, li_48, li_57, li_58, li_59, li_60, li_61, li_62, li_63, li_74, li_75, li_84, li_91, li_93, li_98, li_100, li_103, li_105, li_107, li_109, li_110, li_111, li_112, li_115, li_118, li_119, li_120, li_121, li_124, li_140, li_180, li_206, li_240, li_255, li_420, li_520, li_999, li_1000, li_1771, li_8240, li_9999, li_88200, li_1000000, li_2097151, li_31, nI_add, pk_mul, zz_sub, zz_an, nI_clamp, zz_leT, zz_leF, zz_ltT, zz_ltF, zz_eqF, zz_eqT, zz_m1, zz_m2, zz_m3, zz_m4, zz_m5, zz_m6, zz_ck, zz_bl, zz_b3, zz_b2, zz_shl, zz_bt0, zz_bt1, pk_div, Nat.zero_add, Nat.add_zero, if_true, if_false, reduceIte, Nat.mul_zero, zz_or0, zz_inT, zz_inF, hm]
  | j + 1, i, F + 1, e, f => by
    have ih := pc_fplL hg n d h hD L hx j (i + 1) F (by omega) (by omega)
    have men := hg.1
    have hm := h.1
    have i1 : i < g 0 0 := by omega
    have t2 := h.2.2.2.2.2.2.2.1 i i1
    have sp := hg.2.2.2.2.2.1 i i1
    have po := pc_placeOf hg n d h hD L i1
    have l1 := fmx_lt hg x i (by omega)
    have l21 := lwS_le hg 21 (by omega)
    have rr := hg.2.2.2.2.2.2.2.2.1 i i1
    have pl := plc_le hg rr.1 rr.2.1
    by_cases c : g 3 i = x
    · have mx := J_max n d (fmx g x i) (plc g (g 9 i) (g 10 i)) I L (by omega) (by omega)
      have e2 : fmx g x (i + 1) = max (fmx g x i) (plc g (g 9 i) (g 10 i)) := by show (if g 3 i = x then _ else _) = _; rw [if_pos c]
      rw [e2] at ih
      simp (disch := omega) only [fX11_farthestPlace_b4, fX11_farthestPlace_b4w, fX11_farthestPlace_b38, zz_lt, li_0, li_1, li_2, li_3, li_4, li_5, li_6, li_7, li_8, li_9, li_10, li_11, li_12, li_15, li_16, li_20, li_21, li_24, li_25, li_26, li_32, li_33, li_38, li_40, li_41, li_42, li_43, li_45, li_47, li_48, li_57, li_58, li_59, li_60, li_61, li_62, li_63, li_74, li_75, li_84, li_91, li_93, li_98, li_100, li_103, li_105, li_107, li_109, li_110, li_111, li_112, li_115, li_118, li_119, li_120, li_121, li_124, li_140, li_180, li_206, li_240, li_255, li_420, li_520, li_999, li_1000, li_1771, li_8240, li_9999, li_88200, li_1000000, li_2097151, li_31, nI_add, pk_mul, zz_sub, zz_an, nI_clamp, zz_leT, zz_leF, zz_ltT, zz_ltF, zz_eqF, zz_eqT, zz_m1, zz_m2, zz_m3, zz_m4, zz_m5, zz_m6, zz_ck, zz_bl, zz_b3, zz_b2, zz_shl, zz_bt0, zz_bt1, pk_div, Nat.zero_add, Nat.add_zero, if_true, if_false, reduceIte, Nat.mul_zero, zz_or0, zz_inT, zz_inF, hm, t2, po, mx]
      exact ih
    · have e2 : fmx g x (i + 1) = fmx g x i := by show (if g 3 i = x then _ else _) = _; rw [if_neg c]
      rw [e2] at ih
      simp (disch := omega) only [fX11_farthestPlace_b4, fX11_farthestPlace_b4w, fX11_farthestPlace_b38, zz_lt, li_0, li_1, li_2, li_3, li_4, li_5, li_6, li_7, li_8, li_9, li_10, li_11, li_12, li_15, li_16, li_20, li_21, li_24, li_25, li_26, li_32, li_33, li_38, li_40, li_41, li_42, li_43, li_45, li_47, li_48, li_57, li_58, li_59, li_60, li_61, li_62, li_63, li_74, li_75, li_84, li_91, li_93, li_98, li_100, li_103, li_105, li_107, li_109, li_110, li_111, li_112, li_115, li_118, li_119, li_120, li_121, li_124, li_140, li_180, li_206, li_240, li_255, li_420, li_520, li_999, li_1000, li_1771, li_8240, li_9999, li_88200, li_1000000, li_2097151, li_31, nI_add, pk_mul, zz_sub, zz_an, nI_clamp, zz_leT, zz_leF, zz_ltT, zz_ltF, zz_eqF, zz_eqT, zz_m1, zz_m2, zz_m3, zz_m4, zz_m5, zz_m6, zz_ck, zz_bl, zz_b3, zz_b2, zz_shl, zz_bt0, zz_bt1, pk_div, Nat.zero_add, Nat.add_zero, if_true, if_false, reduceIte, Nat.mul_zero, zz_or0, zz_inT, zz_inF, hm, t2]
      exact ih
theorem pc_fpl {g : Nat → Nat → Nat} (hg : GW g) (n d : Nat) (hn : 100 < n) {I : am_I} (h : CS I g) (hD : DL I g) (L : am_L) {x : Nat} (hx : x ≤ 5) : fX11_farthestPlace n d (nI x) I L = some (nI (fmx g x (g 0 0)), I, L) := by
  have := hg.1
  have l := pc_fplL hg n d h hD L hx (g 0 0) 0 n (by omega) (by omega)
  have e0 : fmx g x 0 = 0 := rfl
  rw [e0] at l
  simp (disch := omega) only [fX11_farthestPlace, zz_lt, li_0, li_1, li_2, li_3, li_4, li_5, li_6, li_7, li_8, li_9, li_10, li_11, li_12, li_15, li_16, li_20, li_21, li_24, li_25, li_26, li_32, li_33, li_38, li_40, li_41, li_42, li_43, li_45, li_47, li_48, li_57, li_58, li_59, li_60, li_61, li_62, li_63, li_74, li_75, li_84, li_91, li_93, li_98, li_100, li_103, li_105, li_107, li_109, li_110, li_111, li_112, li_115, li_118, li_119, li_120, li_121, li_124, li_140, li_180, li_206, li_240, li_255, li_420, li_520, li_999, li_1000, li_1771, li_8240, li_9999, li_88200, li_1000000, li_2097151, li_31, nI_add, pk_mul, zz_sub, zz_an, nI_clamp, zz_leT, zz_leF, zz_ltT, zz_ltF, zz_eqF, zz_eqT, zz_m1, zz_m2, zz_m3, zz_m4, zz_m5, zz_m6, zz_ck, zz_bl, zz_b3, zz_b2, zz_shl, zz_bt0, zz_bt1, pk_div, Nat.zero_add, Nat.add_zero, if_true, if_false, reduceIte, Nat.mul_zero, zz_or0, zz_inT, zz_inF, l]
def sDq (k j : Nat) : Bool := sDd k j || k == 66
theorem ag_Dq {I I' : am_I} (a : am_ag sDd I I') : am_ag sDq I I' := ag_wk a (fun k j h => by
  unfold sDq at h
  cases z : sDd k j
  · rfl
  · rw [z] at h; simp at h)
theorem CS_Dq {I I' : am_I} {g : Nat → Nat → Nat} (h : CS I g) (a : am_ag sDq I I') : CS I' g := by
  unfold CS at *
  rw [a 3 0 rfl, a 3 1 rfl, a 3 2 rfl, a 3 3 rfl, a 39 5 rfl, a 39 4 rfl, a 13 0 rfl, a 13 1 rfl, funext (fun j => a 4 j rfl), funext (fun j => a 5 j rfl), funext (fun j => a 6 j rfl), funext (fun j => a 7 j rfl), funext (fun j => a 8 j rfl), funext (fun j => a 9 j rfl), funext (fun j => a 10 j rfl), funext (fun j => a 11 j rfl), funext (fun j => a 40 j rfl), funext (fun j => a 41 j rfl), funext (fun j => a 12 j rfl)]
  exact h
theorem pc_ready {g : Nat → Nat → Nat} (hg : GW g) (n d : Nat) (hn : 100 < n) {I : am_I} (h : CS I g) (hR : rDu I g) (L : am_L) {m o : Nat} (hm : m < g 0 0) (ho : o < g 0 0) : ∃ I' G O, fX11_makeDuelReady_t n d (nI m) (nI o) I L = some (I', L) ∧ DL I' g ∧ SO I' ∧ RY I' g (g 3 m) (g 3 o) G O ∧ plc g (g 9 m) (g 10 m) ≤ G ∧ plc g (g 9 o) (g 10 o) ≤ O ∧ am_ag sDd I I' := by
  have men := hg.1
  have s1 := hg.2.2.2.2.2.1 m hm
  have s2 := hg.2.2.2.2.2.1 o ho
  have t1 := h.2.2.2.2.2.2.2.1 m hm
  have t2 := h.2.2.2.2.2.2.2.1 o ho
  have f1 := pc_fpl hg n d hn h hR.1 L (x := g 3 m) (by omega)
  have f2 := pc_fpl hg n d hn h hR.1 L (x := g 3 o) (by omega)
  obtain ⟨I', G, O, w1, w2, w3, w4, w5, w6, w7⟩ := pc_prep hg n d hn L hR (x := g 3 m) (y := g 3 o) (by omega) (by omega) (fmx_lt hg (g 3 m) (g 0 0) (Nat.le_refl _)) (fmx_lt hg (g 3 o) (g 0 0) (Nat.le_refl _))
  have g1 := fmx_ge g (g 3 m) (g 0 0) m hm rfl
  have g2 := fmx_ge g (g 3 o) (g 0 0) o ho rfl
  refine ⟨I', G, O, ?_, w2, w3, w4, by omega, by omega, w7⟩
  simp (disch := omega) only [fX11_makeDuelReady_t, fX11_makeDuelReady_t_b42, zz_lt, li_0, li_1, li_2, li_3, li_4, li_5, li_6, li_7, li_8, li_9, li_10, li_11, li_12, li_15, li_16, li_20, li_21, li_24, li_25, li_26, li_32, li_33, li_38, li_40, li_41, li_42, li_43, li_45, li_47, li_48, li_57, li_58, li_59, li_60, li_61, li_62, li_63, li_74, li_75, li_84, li_91, li_93, li_98, li_100, li_103, li_105, li_107, li_109, li_110, li_111, li_112, li_115, li_118, li_119, li_120, li_121, li_124, li_140, li_180, li_206, li_240, li_255, li_420, li_520, li_999, li_1000, li_1771, li_8240, li_9999, li_88200, li_1000000, li_2097151, li_31, nI_add, pk_mul, zz_sub, zz_an, nI_clamp, zz_leT, zz_leF, zz_ltT, zz_ltF, zz_eqF, zz_eqT, zz_m1, zz_m2, zz_m3, zz_m4, zz_m5, zz_m6, zz_ck, zz_bl, zz_b3, zz_b2, zz_shl, zz_bt0, zz_bt1, pk_div, Nat.zero_add, Nat.add_zero, if_true, if_false, reduceIte, Nat.mul_zero, zz_or0, zz_inT, zz_inF, t1, t2, f1, f2, w1]
theorem rDu_of {g : Nat → Nat → Nat} (hg : GW g) {I : am_I} {m o G O : Nat} (hm : m < g 0 0) (ho : o < g 0 0) (w2 : DL I g) (w3 : SO I) (w4 : RY I g (g 3 m) (g 3 o) G O) : rDu I g := by
  have s1 := hg.2.2.2.2.2.1 m hm
  have s2 := hg.2.2.2.2.2.1 o ho
  exact ⟨w2, w3, Or.inr ⟨g 3 m, g 3 o, G, O, by omega, by omega, w4⟩⟩
theorem pc_set {g : Nat → Nat → Nat} (hg : GW g) (n d : Nat) {I : am_I} (L : am_L) {x y G O a r b q : Nat} (h : RY I g x y G O) (ha : 1 ≤ a ∧ a ≤ 20) (hr : r ≤ gRest g a) (hb : 1 ≤ b ∧ b ≤ 20) (hq : q ≤ gRest g b) (hG : plc g a r ≤ G) (hO : plc g b q ≤ O) : fX0_settled_t n d (nI (plc g a r)) (nI (plc g b q)) I L = some (cdD g x y a r b q, I, L) := by
  obtain ⟨r8, r9, r10, r11, r12, r13, r14⟩ := h
  have la := lwS_m g (a := 0) (b := a) (by omega)
  have lb := lwS_m g (a := 0) (b := b) (by omega)
  have ua : plc g a r = lwS g a + r := rfl
  have ub : plc g b q = lwS g b + q := rfl
  have tt := r14 a r b q ha.1 ha.2 hr hb.1 hb.2 hq hG hO
  simp (disch := omega) only [fX0_settled_t, fX0_settled_t_b29, zz_lt, li_0, li_1, li_2, li_3, li_4, li_5, li_6, li_7, li_8, li_9, li_10, li_11, li_12, li_15, li_16, li_20, li_21, li_24, li_25, li_26, li_32, li_33, li_38, li_40, li_41, li_42, li_43, li_45, li_47, li_48, li_57, li_58, li_59, li_60, li_61, li_62, li_63, li_74, li_75, li_84, li_91, li_93, li_98, li_100, li_103, li_105, li_107, li_109, li_110, li_111, li_112, li_115, li_118, li_119, li_120, li_121, li_124, li_140, li_180, li_206, li_240, li_255, li_420, li_520, li_999, li_1000, li_1771, li_8240, li_9999, li_88200, li_1000000, li_2097151, li_31, nI_add, pk_mul, zz_sub, zz_an, nI_clamp, zz_leT, zz_leF, zz_ltT, zz_ltF, zz_eqF, zz_eqT, zz_m1, zz_m2, zz_m3, zz_m4, zz_m5, zz_m6, zz_ck, zz_bl, zz_b3, zz_b2, zz_shl, zz_bt0, zz_bt1, pk_div, Nat.zero_add, Nat.add_zero, if_true, if_false, reduceIte, Nat.mul_zero, zz_or0, zz_inT, zz_inF, r10, r11, tt]
theorem cdD_0 (g : Nat → Nat → Nat) (x y a r b q : Nat) : (cdD g x y a r b q ≤ nI 0) = ((DU g x y a r b q).1.1 = false) := by
  have dn := DU_n g x y a r b q
  unfold cdD
  obtain ⟨v, hv⟩ : ∃ v, v = (DU g x y a r b q).1 := ⟨_, rfl⟩
  rw [← hv] at dn ⊢
  have t := cde_t (v := v) (dd := 2 - (DU g x y a r b q).2) (by omega) (by omega)
  have e : (cde v (2 - (DU g x y a r b q).2) ≤ nI 0) = ((cde v (2 - (DU g x y a r b q).2)).toInt ≤ (nI 0).toInt) := propext Int32.le_iff_toInt_le
  rw [e, t, nI_toInt (by omega)]
  obtain ⟨b', k⟩ := v
  have dn' : (1 ≤ k ∧ k ≤ 151) ∧ _ := dn
  cases b'
  · have : rk (false, k) = (k : Int) - 1000 := rfl
    rw [this]
    exact propext ⟨fun _ => rfl, fun _ => by omega⟩
  · have : rk (true, k) = 1000 - (k : Int) := rfl
    rw [this]
    exact propext ⟨fun z => by omega, fun z => Bool.noConfusion z⟩
theorem pc_won {g : Nat → Nat → Nat} (hg : GW g) (n d : Nat) {I : am_I} (L : am_L) {x y G O a r b q : Nat} (h : RY I g x y G O) (ha : 1 ≤ a ∧ a ≤ 20) (hr : r ≤ gRest g a) (hb : 1 ≤ b ∧ b ≤ 20) (hq : q ≤ gRest g b) (hG : plc g a r ≤ G) (hO : plc g b q ≤ O) : fX0_isWon_t n d (nI (plc g a r)) (nI (plc g b q)) I L = some (nI (DU g x y a r b q).1.1.toNat, I, L) := by
  have s := pc_set hg n d L h ha hr hb hq hG hO
  have z := cdD_0 g x y a r b q
  cases c : (DU g x y a r b q).1.1
  · rw [c] at z
    simp (disch := omega) only [fX0_isWon_t, zz_lt, li_0, li_1, li_2, li_3, li_4, li_5, li_6, li_7, li_8, li_9, li_10, li_11, li_12, li_15, li_16, li_20, li_21, li_24, li_25, li_26, li_32, li_33, li_38, li_40, li_41, li_42, li_43, li_45, li_47, li_48, li_57, li_58, li_59, li_60, li_61, li_62, li_63, li_74, li_75, li_84, li_91, li_93, li_98, li_100, li_103, li_105, li_107, li_109, li_110, li_111, li_112, li_115, li_118, li_119, li_120, li_121, li_124, li_140, li_180, li_206, li_240, li_255, li_420, li_520, li_999, li_1000, li_1771, li_8240, li_9999, li_88200, li_1000000, li_2097151, li_31, nI_add, pk_mul, zz_sub, zz_an, nI_clamp, zz_leT, zz_leF, zz_ltT, zz_ltF, zz_eqF, zz_eqT, zz_m1, zz_m2, zz_m3, zz_m4, zz_m5, zz_m6, zz_ck, zz_bl, zz_b3, zz_b2, zz_shl, zz_bt0, zz_bt1, pk_div, Nat.zero_add, Nat.add_zero, if_true, if_false, reduceIte, Nat.mul_zero, zz_or0, zz_inT, zz_inF, s, z, Bool.toNat_false]
  · rw [c] at z
    simp (disch := omega) only [fX0_isWon_t, zz_lt, li_0, li_1, li_2, li_3, li_4, li_5, li_6, li_7, li_8, li_9, li_10, li_11, li_12, li_15, li_16, li_20, li_21, li_24, li_25, li_26, li_32, li_33, li_38, li_40, li_41, li_42, li_43, li_45, li_47, li_48, li_57, li_58, li_59, li_60, li_61, li_62, li_63, li_74, li_75, li_84, li_91, li_93, li_98, li_100, li_103, li_105, li_107, li_109, li_110, li_111, li_112, li_115, li_118, li_119, li_120, li_121, li_124, li_140, li_180, li_206, li_240, li_255, li_420, li_520, li_999, li_1000, li_1771, li_8240, li_9999, li_88200, li_1000000, li_2097151, li_31, nI_add, pk_mul, zz_sub, zz_an, nI_clamp, zz_leT, zz_leF, zz_ltT, zz_ltF, zz_eqF, zz_eqT, zz_m1, zz_m2, zz_m3, zz_m4, zz_m5, zz_m6, zz_ck, zz_bl, zz_b3, zz_b2, zz_shl, zz_bt0, zz_bt1, pk_div, Nat.zero_add, Nat.add_zero, if_true, if_false, reduceIte, Nat.mul_zero, zz_or0, zz_inT, zz_inF, s, z, Bool.toNat_true, Bool.true_eq_false]
theorem tu_t : ∀ k, k < 200 → ∀ dd, dd < 3 → nI 1000 - (if (0 : Int32) ≤ cde (true, k) dd >>> ((2 : Int32) &&& 31) then cde (true, k) dd >>> ((2 : Int32) &&& 31) else -(cde (true, k) dd >>> ((2 : Int32) &&& 31))) = nI k := by decide +kernel
theorem tu_f : ∀ k, k < 200 → ∀ dd, dd < 3 → nI 1000 - (if (0 : Int32) ≤ cde (false, k) dd >>> ((2 : Int32) &&& 31) then cde (false, k) dd >>> ((2 : Int32) &&& 31) else -(cde (false, k) dd >>> ((2 : Int32) &&& 31))) = nI k := by decide +kernel
theorem de_t : ∀ k, k < 200 → ∀ dd, dd < 3 → nI 2 - (cde (true, k) dd &&& nI 3) = nI (2 - dd) := by decide +kernel
theorem de_f : ∀ k, k < 200 → ∀ dd, dd < 3 → nI 2 - (cde (false, k) dd &&& nI 3) = nI (2 - dd) := by decide +kernel
theorem pc_turns {g : Nat → Nat → Nat} (hg : GW g) (n d : Nat) {I : am_I} (L : am_L) {x y G O a r b q : Nat} (h : RY I g x y G O) (ha : 1 ≤ a ∧ a ≤ 20) (hr : r ≤ gRest g a) (hb : 1 ≤ b ∧ b ≤ 20) (hq : q ≤ gRest g b) (hG : plc g a r ≤ G) (hO : plc g b q ≤ O) : fX0_turns_t n d (nI (plc g a r)) (nI (plc g b q)) I L = some (nI (DU g x y a r b q).1.2, I, L) := by
  have s := pc_set hg n d L h ha hr hb hq hG hO
  have dn := DU_n g x y a r b q
  have k : nI 1000 - (if (0 : Int32) ≤ cdD g x y a r b q >>> ((2 : Int32) &&& 31) then cdD g x y a r b q >>> ((2 : Int32) &&& 31) else -(cdD g x y a r b q >>> ((2 : Int32) &&& 31))) = nI (DU g x y a r b q).1.2 := by
    unfold cdD
    obtain ⟨v, hv⟩ : ∃ v, v = (DU g x y a r b q).1 := ⟨_, rfl⟩
    rw [← hv] at dn ⊢
    obtain ⟨b', k⟩ := v
    have dn' : (1 ≤ k ∧ k ≤ 151) ∧ _ := dn
    cases b'
    · exact tu_f k (by omega) _ (by omega)
    · exact tu_t k (by omega) _ (by omega)
  unfold fX0_turns_t
  rw [s, zz_b3]
  unfold fJ9_abs_0f7a4
  by_cases c : (0 : Int32) ≤ cdD g x y a r b q >>> ((2 : Int32) &&& 31)
  · rw [if_pos c] at k ⊢
    rw [zz_b3]
    exact congrArg (fun z => some (z, I, L)) k
  · rw [if_neg c] at k ⊢
    rw [zz_b3]
    exact congrArg (fun z => some (z, I, L)) k
theorem pc_deed {g : Nat → Nat → Nat} (hg : GW g) (n d : Nat) {I : am_I} (L : am_L) {x y G O a r b q : Nat} (h : RY I g x y G O) (ha : 1 ≤ a ∧ a ≤ 20) (hr : r ≤ gRest g a) (hb : 1 ≤ b ∧ b ≤ 20) (hq : q ≤ gRest g b) (hG : plc g a r ≤ G) (hO : plc g b q ≤ O) : fX0_deed_t n d (nI (plc g a r)) (nI (plc g b q)) I L = some (nI (DU g x y a r b q).2, I, L) := by
  have s := pc_set hg n d L h ha hr hb hq hG hO
  have dn := DU_n g x y a r b q
  have k : nI 2 - (cdD g x y a r b q &&& nI 3) = nI (DU g x y a r b q).2 := by
    unfold cdD
    have e : 2 - (2 - (DU g x y a r b q).2) = (DU g x y a r b q).2 := by omega
    obtain ⟨v, hv⟩ : ∃ v, v = (DU g x y a r b q).1 := ⟨_, rfl⟩
    rw [← hv] at dn ⊢
    obtain ⟨b', k⟩ := v
    have dn' : (1 ≤ k ∧ k ≤ 151) ∧ _ := dn
    cases b'
    · rw [de_f k (by omega) _ (by omega), e]
    · rw [de_t k (by omega) _ (by omega), e]
  unfold fX0_deed_t
  rw [s, zz_b3]
  exact congrArg (fun z => some (z, I, L)) k
def am_du (A B : Option (Int32 × am_I × am_L)) (IC : am_I) (LC : am_L) (IM : am_I) (LM : am_L) (g : Nat → Nat → Nat) : Prop := ∃ r IC' IM', A = some (r, IC', LC) ∧ B = some (r, IM', LM) ∧ am_ag sDq IC IC' ∧ am_ag scrM IM IM' ∧ (g 0 0 = 0 ∨ rDu IC' g)
theorem may0 {g : Nat → Nat → Nat} (hg : GW g) (n d : Nat) {IC IM : am_I} (hc : CS IC g) (h : MS IM g) (LC LM : am_L) (e0 e1 : Int32) : (fX11_mayDuel n d e0 e1 IC LC = some (nI 0, IC, LC) ∧ fX12_canDuel n d e0 e1 IM LM = some (nI 0, IM, LM)) ∨ (∃ m o, m < g 0 0 ∧ o < g 0 0 ∧ e0 = nI m ∧ e1 = nI o ∧ 1 ≤ g 9 m ∧ 1 ≤ g 9 o ∧ fX11_mayDuel n d e0 e1 IC LC = some (nI 1, IC, LC) ∧ fX12_canDuel n d e0 e1 IM LM = some (nI 1, IM, LM)) := by
  have gm := hg.1
  rcases ix_of e0 (n := g 0 0) (by omega) with he | ⟨m, hm, rfl⟩
  · exact Or.inl ⟨by simp (disch := omega) only [fX11_mayDuel, pc_man0 hg hc n d LC he, zz_lt, li_0, li_1, li_2, li_3, li_4, li_5, li_6, li_7, li_8, li_9, li_10, li_11, li_12, li_15, li_16, li_20, li_21, li_24, li_25, li_26, li_32, li_33, li_38, li_40, li_41, li_42, li_43, li_45, li_47, li_48, li_57, li_58, li_59, li_60, li_61, li_62, li_63, li_74, li_75, li_84, li_91, li_93, li_98, li_100, li_103, li_105, li_107, li_109, li_110, li_111, li_112, li_115, li_118, li_119, li_120, li_121, li_124, li_140, li_180, li_206, li_240, li_255, li_420, li_520, li_999, li_1000, li_1771, li_8240, li_9999, li_88200, li_1000000, li_2097151, li_31, nI_add, pk_mul, zz_sub, zz_an, nI_clamp, zz_leT, zz_leF, zz_ltT, zz_ltF, zz_eqF, zz_eqT, zz_m1, zz_m2, zz_m3, zz_m4, zz_m5, zz_m6, zz_ck, zz_bl, zz_b3, zz_b2, zz_shl, zz_bt0, zz_bt1, pk_div, Nat.zero_add, Nat.add_zero, if_true, if_false, reduceIte, Nat.mul_zero, zz_or0, zz_inT, zz_inF], by simp (disch := omega) only [fX12_canDuel, pm_man0 hg h n d LM he, zz_lt, li_0, li_1, li_2, li_3, li_4, li_5, li_6, li_7, li_8, li_9, li_10, li_11, li_12, li_15, li_16, li_20, li_21, li_24, li_25, li_26, li_32, li_33, li_38, li_40, li_41, li_42, li_43, li_45, li_47, li_48, li_57, li_58, li_59, li_60, li_61, li_62, li_63, li_74, li_75, li_84, li_91, li_93, li_98, li_100, li_103, li_105, li_107, li_109, li_110, li_111, li_112, li_115, li_118, li_119, li_120, li_121, li_124, li_140, li_180, li_206, li_240, li_255, li_420, li_520, li_999, li_1000, li_1771, li_8240, li_9999, li_88200, li_1000000, li_2097151, li_31, nI_add, pk_mul, zz_sub, zz_an, nI_clamp, zz_leT, zz_leF, zz_ltT, zz_ltF, zz_eqF, zz_eqT, zz_m1, zz_m2, zz_m3, zz_m4, zz_m5, zz_m6, zz_ck, zz_bl, zz_b3, zz_b2, zz_shl, zz_bt0, zz_bt1, pk_div, Nat.zero_add, Nat.add_zero, if_true, if_false, reduceIte, Nat.mul_zero, zz_or0, zz_inT, zz_inF]⟩
  · rcases ix_of e1 (n := g 0 0) (by omega) with he | ⟨o, ho, rfl⟩
    · exact Or.inl ⟨by simp (disch := omega) only [fX11_mayDuel, pc_man1 hg hc n d LC hm, pc_man0 hg hc n d LC he, zz_lt, li_0, li_1, li_2, li_3, li_4, li_5, li_6, li_7, li_8, li_9, li_10, li_11, li_12, li_15, li_16, li_20, li_21, li_24, li_25, li_26, li_32, li_33, li_38, li_40, li_41, li_42, li_43, li_45, li_47, li_48, li_57, li_58, li_59, li_60, li_61, li_62, li_63, li_74, li_75, li_84, li_91, li_93, li_98, li_100, li_103, li_105, li_107, li_109, li_110, li_111, li_112, li_115, li_118, li_119, li_120, li_121, li_124, li_140, li_180, li_206, li_240, li_255, li_420, li_520, li_999, li_1000, li_1771, li_8240, li_9999, li_88200, li_1000000, li_2097151, li_31, nI_add, pk_mul, zz_sub, zz_an, nI_clamp, zz_leT, zz_leF, zz_ltT, zz_ltF, zz_eqF, zz_eqT, zz_m1, zz_m2, zz_m3, zz_m4, zz_m5, zz_m6, zz_ck, zz_bl, zz_b3, zz_b2, zz_shl, zz_bt0, zz_bt1, pk_div, Nat.zero_add, Nat.add_zero, if_true, if_false, reduceIte, Nat.mul_zero, zz_or0, zz_inT, zz_inF], by simp (disch := omega) only [fX12_canDuel, pm_man1 hg h n d LM hm, pm_man0 hg h n d LM he, zz_lt, li_0, li_1, li_2, li_3, li_4, li_5, li_6, li_7, li_8, li_9, li_10, li_11, li_12, li_15, li_16, li_20, li_21, li_24, li_25, li_26, li_32, li_33, li_38, li_40, li_41, li_42, li_43, li_45, li_47, li_48, li_57, li_58, li_59, li_60, li_61, li_62, li_63, li_74, li_75, li_84, li_91, li_93, li_98, li_100, li_103, li_105, li_107, li_109, li_110, li_111, li_112, li_115, li_118, li_119, li_120, li_121, li_124, li_140, li_180, li_206, li_240, li_255, li_420, li_520, li_999, li_1000, li_1771, li_8240, li_9999, li_88200, li_1000000, li_2097151, li_31, nI_add, pk_mul, zz_sub, zz_an, nI_clamp, zz_leT, zz_leF, zz_ltT, zz_ltF, zz_eqF, zz_eqT, zz_m1, zz_m2, zz_m3, zz_m4, zz_m5, zz_m6, zz_ck, zz_bl, zz_b3, zz_b2, zz_shl, zz_bt0, zz_bt1, pk_div, Nat.zero_add, Nat.add_zero, if_true, if_false, reduceIte, Nat.mul_zero, zz_or0, zz_inT, zz_inF]⟩
    · have r1 := h.2.2.2.2.2.2.2.2.2.2.2.2.2.1 m hm
      have r2 := h.2.2.2.2.2.2.2.2.2.2.2.2.2.1 o ho
      have rr1 := hg.2.2.2.2.2.2.2.2.1 m hm
      have rr2 := hg.2.2.2.2.2.2.2.2.1 o ho
      have g1 := pc_canGo hg hc n d LC hm
      have g2 := pc_canGo hg hc n d LC ho
      by_cases c : m = o
      · subst c
        exact Or.inl ⟨by simp (disch := omega) only [fX11_mayDuel, pc_man1 hg hc n d LC hm, zz_lt, li_0, li_1, li_2, li_3, li_4, li_5, li_6, li_7, li_8, li_9, li_10, li_11, li_12, li_15, li_16, li_20, li_21, li_24, li_25, li_26, li_32, li_33, li_38, li_40, li_41, li_42, li_43, li_45, li_47, li_48, li_57, li_58, li_59, li_60, li_61, li_62, li_63, li_74, li_75, li_84, li_91, li_93, li_98, li_100, li_103, li_105, li_107, li_109, li_110, li_111, li_112, li_115, li_118, li_119, li_120, li_121, li_124, li_140, li_180, li_206, li_240, li_255, li_420, li_520, li_999, li_1000, li_1771, li_8240, li_9999, li_88200, li_1000000, li_2097151, li_31, nI_add, pk_mul, zz_sub, zz_an, nI_clamp, zz_leT, zz_leF, zz_ltT, zz_ltF, zz_eqF, zz_eqT, zz_m1, zz_m2, zz_m3, zz_m4, zz_m5, zz_m6, zz_ck, zz_bl, zz_b3, zz_b2, zz_shl, zz_bt0, zz_bt1, pk_div, Nat.zero_add, Nat.add_zero, if_true, if_false, reduceIte, Nat.mul_zero, zz_or0, zz_inT, zz_inF], by simp (disch := omega) only [fX12_canDuel, pm_man1 hg h n d LM hm, zz_lt, li_0, li_1, li_2, li_3, li_4, li_5, li_6, li_7, li_8, li_9, li_10, li_11, li_12, li_15, li_16, li_20, li_21, li_24, li_25, li_26, li_32, li_33, li_38, li_40, li_41, li_42, li_43, li_45, li_47, li_48, li_57, li_58, li_59, li_60, li_61, li_62, li_63, li_74, li_75, li_84, li_91, li_93, li_98, li_100, li_103, li_105, li_107, li_109, li_110, li_111, li_112, li_115, li_118, li_119, li_120, li_121, li_124, li_140, li_180, li_206, li_240, li_255, li_420, li_520, li_999, li_1000, li_1771, li_8240, li_9999, li_88200, li_1000000, li_2097151, li_31, nI_add, pk_mul, zz_sub, zz_an, nI_clamp, zz_leT, zz_leF, zz_ltT, zz_ltF, zz_eqF, zz_eqT, zz_m1, zz_m2, zz_m3, zz_m4, zz_m5, zz_m6, zz_ck, zz_bl, zz_b3, zz_b2, zz_shl, zz_bt0, zz_bt1, pk_div, Nat.zero_add, Nat.add_zero, if_true, if_false, reduceIte, Nat.mul_zero, zz_or0, zz_inT, zz_inF]⟩
      · by_cases c1 : 0 < g 9 m
        · rw [if_pos c1] at g1
          by_cases c2 : 0 < g 9 o
          · rw [if_pos c2] at g2
            exact Or.inr ⟨m, o, hm, ho, rfl, rfl, c1, c2, by simp (disch := omega) only [fX11_mayDuel, pc_man1 hg hc n d LC hm, pc_man1 hg hc n d LC ho, zz_lt, li_0, li_1, li_2, li_3, li_4, li_5, li_6, li_7, li_8, li_9, li_10, li_11, li_12, li_15, li_16, li_20, li_21, li_24, li_25, li_26, li_32, li_33, li_38, li_40, li_41, li_42, li_43, li_45, li_47, li_48, li_57, li_58, li_59, li_60, li_61, li_62, li_63, li_74, li_75, li_84, li_91, li_93, li_98, li_100, li_103, li_105, li_107, li_109, li_110, li_111, li_112, li_115, li_118, li_119, li_120, li_121, li_124, li_140, li_180, li_206, li_240, li_255, li_420, li_520, li_999, li_1000, li_1771, li_8240, li_9999, li_88200, li_1000000, li_2097151, li_31, nI_add, pk_mul, zz_sub, zz_an, nI_clamp, zz_leT, zz_leF, zz_ltT, zz_ltF, zz_eqF, zz_eqT, zz_m1, zz_m2, zz_m3, zz_m4, zz_m5, zz_m6, zz_ck, zz_bl, zz_b3, zz_b2, zz_shl, zz_bt0, zz_bt1, pk_div, Nat.zero_add, Nat.add_zero, if_true, if_false, reduceIte, Nat.mul_zero, zz_or0, zz_inT, zz_inF, g1, g2], by simp (disch := omega) only [fX12_canDuel, pm_man1 hg h n d LM hm, pm_man1 hg h n d LM ho, zz_lt, li_0, li_1, li_2, li_3, li_4, li_5, li_6, li_7, li_8, li_9, li_10, li_11, li_12, li_15, li_16, li_20, li_21, li_24, li_25, li_26, li_32, li_33, li_38, li_40, li_41, li_42, li_43, li_45, li_47, li_48, li_57, li_58, li_59, li_60, li_61, li_62, li_63, li_74, li_75, li_84, li_91, li_93, li_98, li_100, li_103, li_105, li_107, li_109, li_110, li_111, li_112, li_115, li_118, li_119, li_120, li_121, li_124, li_140, li_180, li_206, li_240, li_255, li_420, li_520, li_999, li_1000, li_1771, li_8240, li_9999, li_88200, li_1000000, li_2097151, li_31, nI_add, pk_mul, zz_sub, zz_an, nI_clamp, zz_leT, zz_leF, zz_ltT, zz_ltF, zz_eqF, zz_eqT, zz_m1, zz_m2, zz_m3, zz_m4, zz_m5, zz_m6, zz_ck, zz_bl, zz_b3, zz_b2, zz_shl, zz_bt0, zz_bt1, pk_div, Nat.zero_add, Nat.add_zero, if_true, if_false, reduceIte, Nat.mul_zero, zz_or0, zz_inT, zz_inF, r1, r2]⟩
          · rw [if_neg c2] at g2
            exact Or.inl ⟨by simp (disch := omega) only [fX11_mayDuel, pc_man1 hg hc n d LC hm, pc_man1 hg hc n d LC ho, zz_lt, li_0, li_1, li_2, li_3, li_4, li_5, li_6, li_7, li_8, li_9, li_10, li_11, li_12, li_15, li_16, li_20, li_21, li_24, li_25, li_26, li_32, li_33, li_38, li_40, li_41, li_42, li_43, li_45, li_47, li_48, li_57, li_58, li_59, li_60, li_61, li_62, li_63, li_74, li_75, li_84, li_91, li_93, li_98, li_100, li_103, li_105, li_107, li_109, li_110, li_111, li_112, li_115, li_118, li_119, li_120, li_121, li_124, li_140, li_180, li_206, li_240, li_255, li_420, li_520, li_999, li_1000, li_1771, li_8240, li_9999, li_88200, li_1000000, li_2097151, li_31, nI_add, pk_mul, zz_sub, zz_an, nI_clamp, zz_leT, zz_leF, zz_ltT, zz_ltF, zz_eqF, zz_eqT, zz_m1, zz_m2, zz_m3, zz_m4, zz_m5, zz_m6, zz_ck, zz_bl, zz_b3, zz_b2, zz_shl, zz_bt0, zz_bt1, pk_div, Nat.zero_add, Nat.add_zero, if_true, if_false, reduceIte, Nat.mul_zero, zz_or0, zz_inT, zz_inF, g1, g2], by simp (disch := omega) only [fX12_canDuel, pm_man1 hg h n d LM hm, pm_man1 hg h n d LM ho, zz_lt, li_0, li_1, li_2, li_3, li_4, li_5, li_6, li_7, li_8, li_9, li_10, li_11, li_12, li_15, li_16, li_20, li_21, li_24, li_25, li_26, li_32, li_33, li_38, li_40, li_41, li_42, li_43, li_45, li_47, li_48, li_57, li_58, li_59, li_60, li_61, li_62, li_63, li_74, li_75, li_84, li_91, li_93, li_98, li_100, li_103, li_105, li_107, li_109, li_110, li_111, li_112, li_115, li_118, li_119, li_120, li_121, li_124, li_140, li_180, li_206, li_240, li_255, li_420, li_520, li_999, li_1000, li_1771, li_8240, li_9999, li_88200, li_1000000, li_2097151, li_31, nI_add, pk_mul, zz_sub, zz_an, nI_clamp, zz_leT, zz_leF, zz_ltT, zz_ltF, zz_eqF, zz_eqT, zz_m1, zz_m2, zz_m3, zz_m4, zz_m5, zz_m6, zz_ck, zz_bl, zz_b3, zz_b2, zz_shl, zz_bt0, zz_bt1, pk_div, Nat.zero_add, Nat.add_zero, if_true, if_false, reduceIte, Nat.mul_zero, zz_or0, zz_inT, zz_inF, r1, r2]⟩
        · rw [if_neg c1] at g1
          exact Or.inl ⟨by simp (disch := omega) only [fX11_mayDuel, pc_man1 hg hc n d LC hm, pc_man1 hg hc n d LC ho, zz_lt, li_0, li_1, li_2, li_3, li_4, li_5, li_6, li_7, li_8, li_9, li_10, li_11, li_12, li_15, li_16, li_20, li_21, li_24, li_25, li_26, li_32, li_33, li_38, li_40, li_41, li_42, li_43, li_45, li_47, li_48, li_57, li_58, li_59, li_60, li_61, li_62, li_63, li_74, li_75, li_84, li_91, li_93, li_98, li_100, li_103, li_105, li_107, li_109, li_110, li_111, li_112, li_115, li_118, li_119, li_120, li_121, li_124, li_140, li_180, li_206, li_240, li_255, li_420, li_520, li_999, li_1000, li_1771, li_8240, li_9999, li_88200, li_1000000, li_2097151, li_31, nI_add, pk_mul, zz_sub, zz_an, nI_clamp, zz_leT, zz_leF, zz_ltT, zz_ltF, zz_eqF, zz_eqT, zz_m1, zz_m2, zz_m3, zz_m4, zz_m5, zz_m6, zz_ck, zz_bl, zz_b3, zz_b2, zz_shl, zz_bt0, zz_bt1, pk_div, Nat.zero_add, Nat.add_zero, if_true, if_false, reduceIte, Nat.mul_zero, zz_or0, zz_inT, zz_inF, g1], by simp (disch := omega) only [fX12_canDuel, pm_man1 hg h n d LM hm, pm_man1 hg h n d LM ho, zz_lt, li_0, li_1, li_2, li_3, li_4, li_5, li_6, li_7, li_8, li_9, li_10, li_11, li_12, li_15, li_16, li_20, li_21, li_24, li_25, li_26, li_32, li_33, li_38, li_40, li_41, li_42, li_43, li_45, li_47, li_48, li_57, li_58, li_59, li_60, li_61, li_62, li_63, li_74, li_75, li_84, li_91, li_93, li_98, li_100, li_103, li_105, li_107, li_109, li_110, li_111, li_112, li_115, li_118, li_119, li_120, li_121, li_124, li_140, li_180, li_206, li_240, li_255, li_420, li_520, li_999, li_1000, li_1771, li_8240, li_9999, li_88200, li_1000000, li_2097151, li_31, nI_add, pk_mul, zz_sub, zz_an, nI_clamp, zz_leT, zz_leF, zz_ltT, zz_ltF, zz_eqF, zz_eqT, zz_m1, zz_m2, zz_m3, zz_m4, zz_m5, zz_m6, zz_ck, zz_bl, zz_b3, zz_b2, zz_shl, zz_bt0, zz_bt1, pk_div, Nat.zero_add, Nat.add_zero, if_true, if_false, reduceIte, Nat.mul_zero, zz_or0, zz_inT, zz_inF, r1, r2]⟩
theorem svd_abs (n d : Nat) (I : am_I) (L : am_L) {v : Bool × Nat} (h1 : 1 ≤ v.2) (h2 : v.2 ≤ 500) : fJ9_abs_0f7a4 n d (svd v) I L = some (nI v.2, I, L) := by
  obtain ⟨b, k⟩ := v
  have h1' : 1 ≤ k := h1
  have h2' : k ≤ 500 := h2
  cases b
  · show fJ9_abs_0f7a4 n d (-nI k) I L = some (nI k, I, L)
    unfold fJ9_abs_0f7a4
    have e : - -nI k = nI k := by
      apply Int32.toInt_inj.mp
      rw [Int32.toInt_neg, nt_t (by omega), nI_toInt (by omega), Int.bmod_eq_of_le (by omega) (by omega)]
      omega
    have e2 : ¬ ((0 : Int32) ≤ -nI k) := by
      rw [li_0, zz_m3 (by omega)]
      exact fun z => z
    rw [if_neg e2, e]
  · show fJ9_abs_0f7a4 n d (nI k) I L = some (nI k, I, L)
    unfold fJ9_abs_0f7a4
    have e3 : (0 : Int32) ≤ nI k := by rw [li_0]; exact of_eq_true (zz_leT (by omega))
    rw [if_pos e3]
theorem am_N88 : 88200 < am_N := by unfold am_N; omega
theorem opn_duel {g : Nat → Nat → Nat} {IC IM : am_I} (n d : Nat) (hn : 88200 < n) (hd : 150 < d) (hg : GW g) (hc : CS IC g) (h : MS IM g) (hR : g 0 0 = 0 ∨ rDu IC g) (LC LM : am_L) (e0 e1 e2 : Int32) : am_du (fX11_duel_t n d e0 e1 e2 IC LC) (fX12_duel n d e0 e1 e2 IM LM) IC LC IM LM g := by
  have gm := hg.1
  rcases may0 hg n d hc h LC LM e0 e1 with ⟨w1, w2⟩ | ⟨m, o, hm, ho, rfl, rfl, h9, h9', w1, w2⟩
  · exact ⟨-nI 1, IC, IM, by simp (disch := omega) only [fX11_duel_t, zz_lt, li_0, li_1, li_2, li_3, li_4, li_5, li_6, li_7, li_8, li_9, li_10, li_11, li_12, li_15, li_16, li_20, li_21, li_24, li_25, li_26, li_32, li_33, li_38, li_40, li_41, li_42, li_43, li_45, li_47, li_48, li_57, li_58, li_59, li_60, li_61, li_62, li_63, li_74, li_75, li_84, li_91, li_93, li_98, li_100, li_103, li_105, li_107, li_109, li_110, li_111, li_112, li_115, li_118, li_119, li_120, li_121, li_124, li_140, li_180, li_206, li_240, li_255, li_420, li_520, li_999, li_1000, li_1771, li_8240, li_9999, li_88200, li_1000000, li_2097151, li_31, nI_add, pk_mul, zz_sub, zz_an, nI_clamp, zz_leT, zz_leF, zz_ltT, zz_ltF, zz_eqF, zz_eqT, zz_m1, zz_m2, zz_m3, zz_m4, zz_m5, zz_m6, zz_ck, zz_bl, zz_b3, zz_b2, zz_shl, zz_bt0, zz_bt1, pk_div, Nat.zero_add, Nat.add_zero, if_true, if_false, reduceIte, Nat.mul_zero, zz_or0, zz_inT, zz_inF, w1], by simp (disch := omega) only [fX12_duel, zz_lt, li_0, li_1, li_2, li_3, li_4, li_5, li_6, li_7, li_8, li_9, li_10, li_11, li_12, li_15, li_16, li_20, li_21, li_24, li_25, li_26, li_32, li_33, li_38, li_40, li_41, li_42, li_43, li_45, li_47, li_48, li_57, li_58, li_59, li_60, li_61, li_62, li_63, li_74, li_75, li_84, li_91, li_93, li_98, li_100, li_103, li_105, li_107, li_109, li_110, li_111, li_112, li_115, li_118, li_119, li_120, li_121, li_124, li_140, li_180, li_206, li_240, li_255, li_420, li_520, li_999, li_1000, li_1771, li_8240, li_9999, li_88200, li_1000000, li_2097151, li_31, nI_add, pk_mul, zz_sub, zz_an, nI_clamp, zz_leT, zz_leF, zz_ltT, zz_ltF, zz_eqF, zz_eqT, zz_m1, zz_m2, zz_m3, zz_m4, zz_m5, zz_m6, zz_ck, zz_bl, zz_b3, zz_b2, zz_shl, zz_bt0, zz_bt1, pk_div, Nat.zero_add, Nat.add_zero, if_true, if_false, reduceIte, Nat.mul_zero, zz_or0, zz_inT, zz_inF, w2], ag_rf, ag_rf, hR⟩
  · have hR' : rDu IC g := hR.resolve_left (by omega)
    rcases ix_of e2 (n := 3) (by omega) with he | ⟨t, ht, rfl⟩
    · have q := pm_in0 n d IM LM he (by omega)
      rw [show nI 3 - nI 1 = nI 2 from rfl] at q
      refine ⟨-nI 1, IC, IM, ?_, by simp (disch := omega) only [fX12_duel, zz_lt, li_0, li_1, li_2, li_3, li_4, li_5, li_6, li_7, li_8, li_9, li_10, li_11, li_12, li_15, li_16, li_20, li_21, li_24, li_25, li_26, li_32, li_33, li_38, li_40, li_41, li_42, li_43, li_45, li_47, li_48, li_57, li_58, li_59, li_60, li_61, li_62, li_63, li_74, li_75, li_84, li_91, li_93, li_98, li_100, li_103, li_105, li_107, li_109, li_110, li_111, li_112, li_115, li_118, li_119, li_120, li_121, li_124, li_140, li_180, li_206, li_240, li_255, li_420, li_520, li_999, li_1000, li_1771, li_8240, li_9999, li_88200, li_1000000, li_2097151, li_31, nI_add, pk_mul, zz_sub, zz_an, nI_clamp, zz_leT, zz_leF, zz_ltT, zz_ltF, zz_eqF, zz_eqT, zz_m1, zz_m2, zz_m3, zz_m4, zz_m5, zz_m6, zz_ck, zz_bl, zz_b3, zz_b2, zz_shl, zz_bt0, zz_bt1, pk_div, Nat.zero_add, Nat.add_zero, if_true, if_false, reduceIte, Nat.mul_zero, zz_or0, zz_inT, zz_inF, w2, q], ag_rf, ag_rf, hR⟩
      by_cases z : e2 < nI 0
      · simp (disch := omega) only [fX11_duel_t, zz_lt, li_0, li_1, li_2, li_3, li_4, li_5, li_6, li_7, li_8, li_9, li_10, li_11, li_12, li_15, li_16, li_20, li_21, li_24, li_25, li_26, li_32, li_33, li_38, li_40, li_41, li_42, li_43, li_45, li_47, li_48, li_57, li_58, li_59, li_60, li_61, li_62, li_63, li_74, li_75, li_84, li_91, li_93, li_98, li_100, li_103, li_105, li_107, li_109, li_110, li_111, li_112, li_115, li_118, li_119, li_120, li_121, li_124, li_140, li_180, li_206, li_240, li_255, li_420, li_520, li_999, li_1000, li_1771, li_8240, li_9999, li_88200, li_1000000, li_2097151, li_31, nI_add, pk_mul, zz_sub, zz_an, nI_clamp, zz_leT, zz_leF, zz_ltT, zz_ltF, zz_eqF, zz_eqT, zz_m1, zz_m2, zz_m3, zz_m4, zz_m5, zz_m6, zz_ck, zz_bl, zz_b3, zz_b2, zz_shl, zz_bt0, zz_bt1, pk_div, Nat.zero_add, Nat.add_zero, if_true, if_false, reduceIte, Nat.mul_zero, zz_or0, zz_inT, zz_inF, w1, z]
      · have z2 : ¬ e2 ≤ nI 2 := fun y => by
          have := Int32.le_iff_toInt_le.mp (he.resolve_left z)
          have y' := Int32.le_iff_toInt_le.mp y
          rw [nI_toInt (by omega)] at this y'
          omega
        simp (disch := omega) only [fX11_duel_t, zz_lt, li_0, li_1, li_2, li_3, li_4, li_5, li_6, li_7, li_8, li_9, li_10, li_11, li_12, li_15, li_16, li_20, li_21, li_24, li_25, li_26, li_32, li_33, li_38, li_40, li_41, li_42, li_43, li_45, li_47, li_48, li_57, li_58, li_59, li_60, li_61, li_62, li_63, li_74, li_75, li_84, li_91, li_93, li_98, li_100, li_103, li_105, li_107, li_109, li_110, li_111, li_112, li_115, li_118, li_119, li_120, li_121, li_124, li_140, li_180, li_206, li_240, li_255, li_420, li_520, li_999, li_1000, li_1771, li_8240, li_9999, li_88200, li_1000000, li_2097151, li_31, nI_add, pk_mul, zz_sub, zz_an, nI_clamp, zz_leT, zz_leF, zz_ltT, zz_ltF, zz_eqF, zz_eqT, zz_m1, zz_m2, zz_m3, zz_m4, zz_m5, zz_m6, zz_ck, zz_bl, zz_b3, zz_b2, zz_shl, zz_bt0, zz_bt1, pk_div, Nat.zero_add, Nat.add_zero, if_true, if_false, reduceIte, Nat.mul_zero, zz_or0, zz_inT, zz_inF, w1, z, z2]
    · obtain ⟨I', G, O, v1, v2, v3, v4, v5, v6, v7⟩ := pc_ready hg n d (by omega) hc hR' LC hm ho
      have c' := CS_Dq hc (ag_Dq v7)
      have p1 := pc_placeOf hg n d c' v2 LC hm
      have p2 := pc_placeOf hg n d c' v2 LC ho
      have rr1 := hg.2.2.2.2.2.2.2.2.1 m hm
      have rr2 := hg.2.2.2.2.2.2.2.2.1 o ho
      have q1 := pc_won hg n d LC v4 ⟨h9, rr1.1⟩ rr1.2.1 ⟨h9', rr2.1⟩ rr2.2.1 v5 v6
      have q2 := pc_turns hg n d LC v4 ⟨h9, rr1.1⟩ rr1.2.1 ⟨h9', rr2.1⟩ rr2.2.1 v5 v6
      have q3 := pc_deed hg n d LC v4 ⟨h9, rr1.1⟩ rr1.2.1 ⟨h9', rr2.1⟩ rr2.2.1 v5 v6
      obtain ⟨J', y1, y2, y3⟩ := pm_dw hg n d hn hd h LM (e := 0) hm ho h9 h9' (Nat.zero_le _) (Nat.zero_le _)
      rw [Nat.sub_zero, Nat.sub_zero] at y1 y3
      have dn := DU_n g (g 3 m) (g 3 o) (g 9 m) (g 10 m) (g 9 o) (g 10 o)
      have pos := svd_pos (v := (DU g (g 3 m) (g 3 o) (g 9 m) (g 10 m) (g 9 o) (g 10 o)).1) dn.1.1 (by omega)
      have ab := svd_abs n d J' LM (v := (DU g (g 3 m) (g 3 o) (g 9 m) (g 10 m) (g 9 o) (g 10 o)).1) dn.1.1 (by omega)
      have rd : g 0 0 = 0 ∨ rDu I' g := Or.inr (rDu_of hg hm ho v2 v3 v4)
      generalize DU g (g 3 m) (g 3 o) (g 9 m) (g 10 m) (g 9 o) (g 10 o) = V at q1 q2 q3 y1 y3 dn pos ab
      match t, ht with
      | 0, _ =>
        refine ⟨nI V.1.1.toNat, I', J', ?_, ?_, ag_Dq v7, y2, rd⟩
        · cases c : V.1.1 <;> (rw [c] at q1; simp (disch := omega) only [fX11_duel_t, fX11_duel_t_b26, fX11_duel_t_b55, zz_lt, li_0, li_1, li_2, li_3, li_4, li_5, li_6, li_7, li_8, li_9, li_10, li_11, li_12, li_15, li_16, li_20, li_21, li_24, li_25, li_26, li_32, li_33, li_38, li_40, li_41, li_42, li_43, li_45, li_47, li_48, li_57, li_58, li_59, li_60, li_61, li_62, li_63, li_74, li_75, li_84, li_91, li_93, li_98, li_100, li_103, li_105, li_107, li_109, li_110, li_111, li_112, li_115, li_118, li_119, li_120, li_121, li_124, li_140, li_180, li_206, li_240, li_255, li_420, li_520, li_999, li_1000, li_1771, li_8240, li_9999, li_88200, li_1000000, li_2097151, li_31, nI_add, pk_mul, zz_sub, zz_an, nI_clamp, zz_leT, zz_leF, zz_ltT, zz_ltF, zz_eqF, zz_eqT, zz_m1, zz_m2, zz_m3, zz_m4, zz_m5, zz_m6, zz_ck, zz_bl, zz_b3, zz_b2, zz_shl, zz_bt0, zz_bt1, pk_div, Nat.zero_add, Nat.add_zero, if_true, if_false, reduceIte, Nat.mul_zero, zz_or0, zz_inT, zz_inF, w1, v1, p1, p2, q1, Bool.toNat_true, Bool.toNat_false])
        · cases c : V.1.1 <;> (rw [c] at pos; simp (disch := omega) only [fX12_duel, zz_lt, li_0, li_1, li_2, li_3, li_4, li_5, li_6, li_7, li_8, li_9, li_10, li_11, li_12, li_15, li_16, li_20, li_21, li_24, li_25, li_26, li_32, li_33, li_38, li_40, li_41, li_42, li_43, li_45, li_47, li_48, li_57, li_58, li_59, li_60, li_61, li_62, li_63, li_74, li_75, li_84, li_91, li_93, li_98, li_100, li_103, li_105, li_107, li_109, li_110, li_111, li_112, li_115, li_118, li_119, li_120, li_121, li_124, li_140, li_180, li_206, li_240, li_255, li_420, li_520, li_999, li_1000, li_1771, li_8240, li_9999, li_88200, li_1000000, li_2097151, li_31, nI_add, pk_mul, zz_sub, zz_an, nI_clamp, zz_leT, zz_leF, zz_ltT, zz_ltF, zz_eqF, zz_eqT, zz_m1, zz_m2, zz_m3, zz_m4, zz_m5, zz_m6, zz_ck, zz_bl, zz_b3, zz_b2, zz_shl, zz_bt0, zz_bt1, pk_div, Nat.zero_add, Nat.add_zero, if_true, if_false, reduceIte, Nat.mul_zero, zz_or0, zz_inT, zz_inF, w2, y1, pos, Bool.toNat_true, Bool.toNat_false, Bool.true_eq_false])
      | 1, _ =>
        refine ⟨nI V.1.2, I', J', ?_, ?_, ag_Dq v7, y2, rd⟩
        · simp (disch := omega) only [fX11_duel_t, fX11_duel_t_b26, fX11_duel_t_b80, fX11_duel_t_b94, zz_lt, li_0, li_1, li_2, li_3, li_4, li_5, li_6, li_7, li_8, li_9, li_10, li_11, li_12, li_15, li_16, li_20, li_21, li_24, li_25, li_26, li_32, li_33, li_38, li_40, li_41, li_42, li_43, li_45, li_47, li_48, li_57, li_58, li_59, li_60, li_61, li_62, li_63, li_74, li_75, li_84, li_91, li_93, li_98, li_100, li_103, li_105, li_107, li_109, li_110, li_111, li_112, li_115, li_118, li_119, li_120, li_121, li_124, li_140, li_180, li_206, li_240, li_255, li_420, li_520, li_999, li_1000, li_1771, li_8240, li_9999, li_88200, li_1000000, li_2097151, li_31, nI_add, pk_mul, zz_sub, zz_an, nI_clamp, zz_leT, zz_leF, zz_ltT, zz_ltF, zz_eqF, zz_eqT, zz_m1, zz_m2, zz_m3, zz_m4, zz_m5, zz_m6, zz_ck, zz_bl, zz_b3, zz_b2, zz_shl, zz_bt0, zz_bt1, pk_div, Nat.zero_add, Nat.add_zero, if_true, if_false, reduceIte, Nat.mul_zero, zz_or0, zz_inT, zz_inF, w1, v1, p1, p2, q2]
        · simp (disch := omega) only [fX12_duel, zz_lt, li_0, li_1, li_2, li_3, li_4, li_5, li_6, li_7, li_8, li_9, li_10, li_11, li_12, li_15, li_16, li_20, li_21, li_24, li_25, li_26, li_32, li_33, li_38, li_40, li_41, li_42, li_43, li_45, li_47, li_48, li_57, li_58, li_59, li_60, li_61, li_62, li_63, li_74, li_75, li_84, li_91, li_93, li_98, li_100, li_103, li_105, li_107, li_109, li_110, li_111, li_112, li_115, li_118, li_119, li_120, li_121, li_124, li_140, li_180, li_206, li_240, li_255, li_420, li_520, li_999, li_1000, li_1771, li_8240, li_9999, li_88200, li_1000000, li_2097151, li_31, nI_add, pk_mul, zz_sub, zz_an, nI_clamp, zz_leT, zz_leF, zz_ltT, zz_ltF, zz_eqF, zz_eqT, zz_m1, zz_m2, zz_m3, zz_m4, zz_m5, zz_m6, zz_ck, zz_bl, zz_b3, zz_b2, zz_shl, zz_bt0, zz_bt1, pk_div, Nat.zero_add, Nat.add_zero, if_true, if_false, reduceIte, Nat.mul_zero, zz_or0, zz_inT, zz_inF, w2, y1, ab]
      | 2, _ =>
        refine ⟨nI V.2, I', J', ?_, ?_, ag_Dq v7, y2, rd⟩
        · simp (disch := omega) only [fX11_duel_t, fX11_duel_t_b26, fX11_duel_t_b94, zz_lt, li_0, li_1, li_2, li_3, li_4, li_5, li_6, li_7, li_8, li_9, li_10, li_11, li_12, li_15, li_16, li_20, li_21, li_24, li_25, li_26, li_32, li_33, li_38, li_40, li_41, li_42, li_43, li_45, li_47, li_48, li_57, li_58, li_59, li_60, li_61, li_62, li_63, li_74, li_75, li_84, li_91, li_93, li_98, li_100, li_103, li_105, li_107, li_109, li_110, li_111, li_112, li_115, li_118, li_119, li_120, li_121, li_124, li_140, li_180, li_206, li_240, li_255, li_420, li_520, li_999, li_1000, li_1771, li_8240, li_9999, li_88200, li_1000000, li_2097151, li_31, nI_add, pk_mul, zz_sub, zz_an, nI_clamp, zz_leT, zz_leF, zz_ltT, zz_ltF, zz_eqF, zz_eqT, zz_m1, zz_m2, zz_m3, zz_m4, zz_m5, zz_m6, zz_ck, zz_bl, zz_b3, zz_b2, zz_shl, zz_bt0, zz_bt1, pk_div, Nat.zero_add, Nat.add_zero, if_true, if_false, reduceIte, Nat.mul_zero, zz_or0, zz_inT, zz_inF, w1, v1, p1, p2, q3]
        · simp (disch := omega) only [fX12_duel, zz_lt, li_0, li_1, li_2, li_3, li_4, li_5, li_6, li_7, li_8, li_9, li_10, li_11, li_12, li_15, li_16, li_20, li_21, li_24, li_25, li_26, li_32, li_33, li_38, li_40, li_41, li_42, li_43, li_45, li_47, li_48, li_57, li_58, li_59, li_60, li_61, li_62, li_63, li_74, li_75, li_84, li_91, li_93, li_98, li_100, li_103, li_105, li_107, li_109, li_110, li_111, li_112, li_115, li_118, li_119, li_120, li_121, li_124, li_140, li_180, li_206, li_240, li_255, li_420, li_520, li_999, li_1000, li_1771, li_8240, li_9999, li_88200, li_1000000, li_2097151, li_31, nI_add, pk_mul, zz_sub, zz_an, nI_clamp, zz_leT, zz_leF, zz_ltT, zz_ltF, zz_eqF, zz_eqT, zz_m1, zz_m2, zz_m3, zz_m4, zz_m5, zz_m6, zz_ck, zz_bl, zz_b3, zz_b2, zz_shl, zz_bt0, zz_bt1, pk_div, Nat.zero_add, Nat.add_zero, if_true, if_false, reduceIte, Nat.mul_zero, zz_or0, zz_inT, zz_inF, w2, y1, y3]
theorem op_duel {g : Nat → Nat → Nat} {IC IM : am_I} (hg : GW g) (hc : CS IC g) (h : MS IM g) (hR : g 0 0 = 0 ∨ rDu IC g) (LC LM : am_L) (e0 e1 e2 : Int32) : am_du (fX11_duel_t am_N 1900 e0 e1 e2 IC LC) (fX12_duel am_N 1900 e0 e1 e2 IM LM) IC LC IM LM g := opn_duel am_N 1900 am_N88 (by omega) hg hc h hR LC LM e0 e1 e2
/-- treaties: how long it stays so -/
def trn (f : Nat → Bool) (M : Nat) : Nat → Nat → Nat
  | 0, k => k
  | j + 1, k => if k < M ∧ f (k + 1) = f 0 then trn f M j (k + 1) else k
