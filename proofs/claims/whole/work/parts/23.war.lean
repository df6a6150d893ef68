/-! PURE: the war and the road as numbers g; both sides' states of them. -/
/-- days of rest at a step: the first orchard there -/
def gR (g : Nat → Nat → Nat) (s : Nat) : Nat → Nat → Nat
  | 0, _ => 0
  | j + 1, i => if g 7 i = s then g 8 i else gR g s j (i + 1)
def gRest (g : Nat → Nat → Nat) (s : Nat) : Nat := gR g s (g 0 1) 0
/-- the numbers' bounds -/
def GW (g : Nat → Nat → Nat) : Prop := g 0 0 ≤ 8 ∧ g 0 1 ≤ 6 ∧ g 0 2 ≤ 9 ∧ g 0 3 ≤ 1 ∧ g 0 4 ≤ 9999 ∧ (∀ m, m < g 0 0 → g 1 m ≤ 1 ∧ g 2 m ≤ 20 ∧ 1 ≤ g 3 m ∧ g 3 m ≤ 5 ∧ g 4 m ≤ 1 ∧ g 5 m ≤ 9 ∧ g 6 m ≤ 9) ∧ (∀ o, o < g 0 1 → 1 ≤ g 7 o ∧ g 7 o ≤ 20 ∧ 1 ≤ g 8 o ∧ g 8 o ≤ 9) ∧ (∀ o q, o < g 0 1 → q < g 0 1 → g 7 o = g 7 q → o = q) ∧ (∀ m, m < g 0 0 → g 9 m ≤ 20 ∧ g 10 m ≤ gRest g (g 9 m) ∧ g 11 m ≤ 1) ∧ (0 < g 0 0 → (∃ m, m < g 0 0 ∧ g 1 m = 0) ∧ (∃ m, m < g 0 0 ∧ g 1 m = 1))
theorem gR_le {g : Nat → Nat → Nat} (hg : GW g) (s : Nat) : ∀ j i, i + j = g 0 1 → gR g s j i ≤ 9
  | 0, _, _ => Nat.zero_le _
  | j + 1, i, e => by
    unfold gR
    split
    · exact (hg.2.2.2.2.2.2.1 i (by omega)).2.2.2
    · exact gR_le hg s j (i + 1) (by omega)
theorem gRest_le {g : Nat → Nat → Nat} (hg : GW g) (s : Nat) : gRest g s ≤ 9 := gR_le hg s _ 0 (by omega)
/-- the model's, the class's -/
def MS (I : am_I) (g : Nat → Nat → Nat) : Prop := I 0 25 = nI (g 0 0) ∧ I 0 26 = nI (g 0 1) ∧ I 16 0 = nI (g 0 2) ∧ I 16 1 = nI (g 0 3) ∧ I 17 24 = nI (g 0 4) ∧ (∀ m, m < g 0 0 → I 14 (6 * m) = nI (g 1 m)) ∧ (∀ m, m < g 0 0 → I 14 (6 * m + 1) = nI (g 2 m)) ∧ (∀ m, m < g 0 0 → I 14 (6 * m + 2) = nI (g 3 m)) ∧ (∀ m, m < g 0 0 → I 14 (6 * m + 3) = nI (g 4 m)) ∧ (∀ m, m < g 0 0 → I 14 (6 * m + 4) = nI (g 5 m)) ∧ (∀ m, m < g 0 0 → I 14 (6 * m + 5) = nI (g 6 m)) ∧ (∀ m, m < g 0 1 → I 15 (2 * m) = nI (g 7 m)) ∧ (∀ m, m < g 0 1 → I 15 (2 * m + 1) = nI (g 8 m)) ∧ (∀ m, m < g 0 0 → I 17 m = nI (g 9 m)) ∧ (∀ m, m < g 0 0 → I 17 (8 + m) = nI (g 10 m)) ∧ (∀ m, m < g 0 0 → I 17 (16 + m) = nI (g 11 m))
def CS (I : am_I) (g : Nat → Nat → Nat) : Prop := I 3 0 = nI (g 0 0) ∧ I 3 1 = nI (g 0 1) ∧ I 3 2 = nI (g 0 2) ∧ I 3 3 = nI (g 0 3) ∧ I 39 5 = nI (g 0 4) ∧ (∀ m, m < g 0 0 → I 4 m = nI (g 1 m)) ∧ (∀ m, m < g 0 0 → I 5 m = nI (g 2 m)) ∧ (∀ m, m < g 0 0 → I 6 m = nI (g 3 m)) ∧ (∀ m, m < g 0 0 → I 7 m = nI (g 4 m)) ∧ (∀ m, m < g 0 0 → I 8 m = nI (g 5 m)) ∧ (∀ m, m < g 0 0 → I 9 m = nI (g 6 m)) ∧ (∀ m, m < g 0 1 → I 10 m = nI (g 7 m)) ∧ (∀ m, m < g 0 1 → I 11 m = nI (g 8 m)) ∧ (∀ m, m < g 0 0 → I 40 m = nI (g 9 m)) ∧ (∀ m, m < g 0 0 → I 41 m = nI (g 10 m)) ∧ I 39 4 = am_bits (fun m => decide (g 11 m = 1)) (g 0 0) ∧ (∀ s, s ≤ 20 → I 12 s = nI (gRest g s)) ∧ I 13 0 = am_bits (fun m => decide (g 1 m = 0)) (g 0 0) ∧ I 13 1 = am_bits (fun m => decide (g 1 m = 1)) (g 0 0)
/-- where nothing of them lies: scratch of the model, of the class -/
def scrM (k j : Nat) : Bool := match k with
  | 0 => match j with
    | 0 => true | 3 => true | 4 => true | 5 => true | 14 => true | 20 => true | 21 => true | 34 => true | 35 => true | 36 => true | _ => false
  | 2 => decide (2080 ≤ j) | 3 => decide (2080 ≤ j) | 4 => decide (4 ≤ j) | 5 => decide (4 ≤ j) | 6 => decide (560 ≤ j) | 7 => decide (560 ≤ j) | 8 => decide (560 ≤ j)
  | 9 => true | 10 => true | 11 => true | 12 => true | 13 => true | 19 => true | 20 => true | 23 => true
  | _ => false
def scrC (k j : Nat) : Bool := match k with
  | 14 => true | 15 => true | 16 => true | 17 => true | 18 => true | 19 => true | 20 => true | 21 => true | 22 => true | 23 => true | 24 => true | 25 => true | 26 => true | 27 => true | 28 => true
  | 36 => true | 37 => true | 38 => true | 58 => true | 59 => true | 63 => true | 64 => true | 66 => true
  | 60 => match j with | 4 => true | _ => false
  | _ => false
theorem MS_keep {I I' : am_I} {g : Nat → Nat → Nat} (h : MS I g) (a : am_ag scrM I I') : MS I' g := by
  unfold MS at *
  rw [a 0 25 rfl, a 0 26 rfl, funext (fun j => a 14 j rfl), funext (fun j => a 15 j rfl), funext (fun j => a 16 j rfl), funext (fun j => a 17 j rfl)]
  exact h
theorem CS_keep {I I' : am_I} {g : Nat → Nat → Nat} (h : CS I g) (a : am_ag scrC I I') : CS I' g := by
  unfold CS at *
  rw [funext (fun j => a 3 j rfl), funext (fun j => a 4 j rfl), funext (fun j => a 5 j rfl), funext (fun j => a 6 j rfl), funext (fun j => a 7 j rfl), funext (fun j => a 8 j rfl), funext (fun j => a 9 j rfl), funext (fun j => a 10 j rfl), funext (fun j => a 11 j rfl), funext (fun j => a 12 j rfl), funext (fun j => a 13 j rfl), funext (fun j => a 39 j rfl), funext (fun j => a 40 j rfl), funext (fun j => a 41 j rfl)]
  exact h
/-- the same answer, nothing changed -/
def am_same (A B : Option (Int32 × am_I × am_L)) (IC : am_I) (LC : am_L) (IM : am_I) (LM : am_L) : Prop := ∃ r, A = some (r, IC, LC) ∧ B = some (r, IM, LM)
theorem sub1_toInt {a : Nat} (h : a < 2147483648) : (nI a - nI 1).toInt = (a : Int) - 1 := by
  rw [Int32.toInt_sub, nI_toInt (by omega), nI_toInt (by omega), Int.bmod_eq_of_le (by omega) (by omega)]
  rfl
theorem pm_in1 {j a : Nat} (n d : Nat) (I : am_I) (L : am_L) (hj : j < a) (ha : a < 2147483648) : fX12_in n d (nI j) (nI 0) (nI a - nI 1) I L = some (nI 1, I, L) := by
  rw [pm_in, if_neg]
  intro h
  rcases h with h | h
  · exact nI_pos (by omega) h
  · have := Int32.lt_iff_toInt_lt.mp h
    rw [sub1_toInt ha, nI_toInt (by omega)] at this
    omega
theorem pm_in0 {e : Int32} {a : Nat} (n d : Nat) (I : am_I) (L : am_L) (he : e < nI 0 ∨ nI a ≤ e) (ha : a < 2147483648) : fX12_in n d e (nI 0) (nI a - nI 1) I L = some (nI 0, I, L) := by
  rw [pm_in, if_pos]
  rcases he with h | h
  · exact Or.inl h
  · refine Or.inr (Int32.lt_iff_toInt_lt.mpr ?_)
    have := Int32.le_iff_toInt_le.mp h
    rw [nI_toInt (by omega)] at this
    rw [sub1_toInt ha]
    omega
theorem pm_man1 {g : Nat → Nat → Nat} {I : am_I} (hg : GW g) (h : MS I g) (n d : Nat) (L : am_L) {j : Nat} (hj : j < g 0 0) : fX12_isMan n d (nI j) I L = some (nI 1, I, L) := by
  unfold fX12_isMan
  rw [h.1, li_0, li_1, pm_in1 n d I L hj (by have := hg.1; omega), zz_b3, zz_bl (by omega)]
theorem pm_man0 {g : Nat → Nat → Nat} {I : am_I} (hg : GW g) (h : MS I g) (n d : Nat) (L : am_L) {e : Int32} (he : e < nI 0 ∨ nI (g 0 0) ≤ e) : fX12_isMan n d e I L = some (nI 0, I, L) := by
  unfold fX12_isMan
  rw [h.1, li_0, li_1, pm_in0 n d I L he (by have := hg.1; omega), zz_b3, zz_bl (by omega)]
theorem pc_man1 {g : Nat → Nat → Nat} {I : am_I} (hg : GW g) (h : CS I g) (n d : Nat) (L : am_L) {j : Nat} (hj : j < g 0 0) : fX9_hasMan_war n d (nI j) I L = some (nI 1, I, L) := by
  obtain ⟨hm, hgv, hp, ha, hd, t0, t1, t2, t3, t4, t5, o0, o1, r0, r1, hde, hra, hs0, hs1⟩ := h
  obtain ⟨gm, gg, gp, ga, gd, gmn, gor, gdi, grd, gsd⟩ := hg
  simp (disch := omega) only [fX9_hasMan_war, am_lt, li_0, li_1, li_2, li_3, li_4, li_5, li_6, li_7, li_8, li_9, li_10, li_11, li_12, li_15, li_16, li_20, li_21, li_24, li_25, li_26, li_32, li_33, li_38, li_40, li_41, li_42, li_43, li_45, li_47, li_48, li_57, li_58, li_59, li_60, li_61, li_62, li_63, li_74, li_75, li_84, li_91, li_93, li_98, li_100, li_103, li_105, li_107, li_109, li_110, li_111, li_112, li_115, li_118, li_119, li_120, li_121, li_124, li_140, li_180, li_206, li_240, li_255, li_420, li_520, li_999, li_1000, li_1771, li_8240, li_9999, li_88200, li_1000000, li_2097151, li_31, nI_add, pk_mul, zz_sub, zz_an, nI_clamp, zz_leT, zz_leF, zz_ltT, zz_ltF, zz_eqF, zz_eqT, zz_m1, zz_m2, zz_m3, zz_m4, zz_m5, zz_m6, zz_ck, zz_bl, zz_b3, zz_b2, zz_shl, zz_bt0, zz_bt1, pk_div, Nat.zero_add, Nat.add_zero, if_true, if_false, reduceIte, Nat.mul_zero, zz_or0, zz_inT, zz_inF, hm, hgv, hp, ha, hd, t0, t1, t2, t3, t4, t5, o0, o1, r0, r1]
theorem pc_man0 {g : Nat → Nat → Nat} {I : am_I} (hg : GW g) (h : CS I g) (n d : Nat) (L : am_L) {e : Int32} (he : e < nI 0 ∨ nI (g 0 0) ≤ e) : fX9_hasMan_war n d e I L = some (nI 0, I, L) := by
  obtain ⟨hm, hgv, hp, ha, hd, t0, t1, t2, t3, t4, t5, o0, o1, r0, r1, hde, hra, hs0, hs1⟩ := h
  unfold fX9_hasMan_war
  rw [hm, li_0]
  by_cases q : e < nI 0
  · rw [if_pos q]
  · rw [if_neg q, if_pos (he.resolve_left q)]
theorem pm_side {g : Nat → Nat → Nat} {I : am_I} (hg : GW g) (h : MS I g) (n d : Nat) (L : am_L) {j : Nat} (hj : j < g 0 0) : fX12_side n d (nI j) I L = some (nI (g 1 j), I, L) := by
  obtain ⟨hm, hgv, hp, ha, hd, t0, t1, t2, t3, t4, t5, o0, o1, r0, r1, r2⟩ := h
  obtain ⟨gm, gg, gp, ga, gd, gmn, gor, gdi, grd, gsd⟩ := hg
  simp (disch := omega) only [fX12_side, am_lt, li_0, li_1, li_2, li_3, li_4, li_5, li_6, li_7, li_8, li_9, li_10, li_11, li_12, li_15, li_16, li_20, li_21, li_24, li_25, li_26, li_32, li_33, li_38, li_40, li_41, li_42, li_43, li_45, li_47, li_48, li_57, li_58, li_59, li_60, li_61, li_62, li_63, li_74, li_75, li_84, li_91, li_93, li_98, li_100, li_103, li_105, li_107, li_109, li_110, li_111, li_112, li_115, li_118, li_119, li_120, li_121, li_124, li_140, li_180, li_206, li_240, li_255, li_420, li_520, li_999, li_1000, li_1771, li_8240, li_9999, li_88200, li_1000000, li_2097151, li_31, nI_add, pk_mul, zz_sub, zz_an, nI_clamp, zz_leT, zz_leF, zz_ltT, zz_ltF, zz_eqF, zz_eqT, zz_m1, zz_m2, zz_m3, zz_m4, zz_m5, zz_m6, zz_ck, zz_bl, zz_b3, zz_b2, zz_shl, zz_bt0, zz_bt1, pk_div, Nat.zero_add, Nat.add_zero, if_true, if_false, reduceIte, Nat.mul_zero, zz_or0, zz_inT, zz_inF, hm, hgv, hp, ha, hd, t0, t1, t2, t3, t4, t5, o0, o1, r0, r1, r2]
theorem pm_is1 {g : Nat → Nat → Nat} {I : am_I} (hg : GW g) (h : MS I g) (n d : Nat) (L : am_L) {j : Nat} (hj : j < 2) (h0 : 0 < g 0 0) : fX12_isSide n d (nI j) I L = some (nI 1, I, L) := by
  obtain ⟨hm, hgv, hp, ha, hd, t0, t1, t2, t3, t4, t5, o0, o1, r0, r1, r2⟩ := h
  obtain ⟨gm, gg, gp, ga, gd, gmn, gor, gdi, grd, gsd⟩ := hg
  have q := pm_in1 n d I L hj (by omega)
  rw [show nI 2 - nI 1 = nI 1 from rfl] at q
  simp (disch := omega) only [fX12_isSide, q, am_lt, li_0, li_1, li_2, li_3, li_4, li_5, li_6, li_7, li_8, li_9, li_10, li_11, li_12, li_15, li_16, li_20, li_21, li_24, li_25, li_26, li_32, li_33, li_38, li_40, li_41, li_42, li_43, li_45, li_47, li_48, li_57, li_58, li_59, li_60, li_61, li_62, li_63, li_74, li_75, li_84, li_91, li_93, li_98, li_100, li_103, li_105, li_107, li_109, li_110, li_111, li_112, li_115, li_118, li_119, li_120, li_121, li_124, li_140, li_180, li_206, li_240, li_255, li_420, li_520, li_999, li_1000, li_1771, li_8240, li_9999, li_88200, li_1000000, li_2097151, li_31, nI_add, pk_mul, zz_sub, zz_an, nI_clamp, zz_leT, zz_leF, zz_ltT, zz_ltF, zz_eqF, zz_eqT, zz_m1, zz_m2, zz_m3, zz_m4, zz_m5, zz_m6, zz_ck, zz_bl, zz_b3, zz_b2, zz_shl, zz_bt0, zz_bt1, pk_div, Nat.zero_add, Nat.add_zero, if_true, if_false, reduceIte, Nat.mul_zero, zz_or0, zz_inT, zz_inF, hm, hgv, hp, ha, hd, t0, t1, t2, t3, t4, t5, o0, o1, r0, r1, r2]
theorem pm_is0 {g : Nat → Nat → Nat} {I : am_I} (hg : GW g) (h : MS I g) (n d : Nat) (L : am_L) {e : Int32} (he : (e < nI 0 ∨ nI 2 ≤ e) ∨ g 0 0 = 0) : fX12_isSide n d e I L = some (nI 0, I, L) := by
  obtain ⟨hm, hgv, hp, ha, hd, t0, t1, t2, t3, t4, t5, o0, o1, r0, r1, r2⟩ := h
  obtain ⟨gm, gg, gp, ga, gd, gmn, gor, gdi, grd, gsd⟩ := hg
  by_cases q : g 0 0 = 0
  · simp (disch := omega) only [fX12_isSide, am_lt, li_0, li_1, li_2, li_3, li_4, li_5, li_6, li_7, li_8, li_9, li_10, li_11, li_12, li_15, li_16, li_20, li_21, li_24, li_25, li_26, li_32, li_33, li_38, li_40, li_41, li_42, li_43, li_45, li_47, li_48, li_57, li_58, li_59, li_60, li_61, li_62, li_63, li_74, li_75, li_84, li_91, li_93, li_98, li_100, li_103, li_105, li_107, li_109, li_110, li_111, li_112, li_115, li_118, li_119, li_120, li_121, li_124, li_140, li_180, li_206, li_240, li_255, li_420, li_520, li_999, li_1000, li_1771, li_8240, li_9999, li_88200, li_1000000, li_2097151, li_31, nI_add, pk_mul, zz_sub, zz_an, nI_clamp, zz_leT, zz_leF, zz_ltT, zz_ltF, zz_eqF, zz_eqT, zz_m1, zz_m2, zz_m3, zz_m4, zz_m5, zz_m6, zz_ck, zz_bl, zz_b3, zz_b2, zz_shl, zz_bt0, zz_bt1, pk_div, Nat.zero_add, Nat.add_zero, if_true, if_false, reduceIte, Nat.mul_zero, zz_or0, zz_inT, zz_inF, hm, hgv, hp, ha, hd, t0, t1, t2, t3, t4, t5, o0, o1, r0, r1, r2]
  · have q := pm_in0 n d I L (he.resolve_right q) (by omega)
    rw [show nI 2 - nI 1 = nI 1 from rfl] at q
    simp (disch := omega) only [fX12_isSide, q, am_lt, li_0, li_1, li_2, li_3, li_4, li_5, li_6, li_7, li_8, li_9, li_10, li_11, li_12, li_15, li_16, li_20, li_21, li_24, li_25, li_26, li_32, li_33, li_38, li_40, li_41, li_42, li_43, li_45, li_47, li_48, li_57, li_58, li_59, li_60, li_61, li_62, li_63, li_74, li_75, li_84, li_91, li_93, li_98, li_100, li_103, li_105, li_107, li_109, li_110, li_111, li_112, li_115, li_118, li_119, li_120, li_121, li_124, li_140, li_180, li_206, li_240, li_255, li_420, li_520, li_999, li_1000, li_1771, li_8240, li_9999, li_88200, li_1000000, li_2097151, li_31, nI_add, pk_mul, zz_sub, zz_an, nI_clamp, zz_leT, zz_leF, zz_ltT, zz_ltF, zz_eqF, zz_eqT, zz_m1, zz_m2, zz_m3, zz_m4, zz_m5, zz_m6, zz_ck, zz_bl, zz_b3, zz_b2, zz_shl, zz_bt0, zz_bt1, pk_div, Nat.zero_add, Nat.add_zero, if_true, if_false, reduceIte, Nat.mul_zero, zz_or0, zz_inT, zz_inF, hm, hgv, hp, ha, hd, t0, t1, t2, t3, t4, t5, o0, o1, r0, r1, r2]
theorem pc_is1 {g : Nat → Nat → Nat} {I : am_I} (hg : GW g) (h : CS I g) (n d : Nat) (L : am_L) {j : Nat} (hj : j < 2) (h0 : 0 < g 0 0) : fX11_isSideOfWar n d (nI j) I L = some (nI 1, I, L) := by
  obtain ⟨hm, hgv, hp, ha, hd, t0, t1, t2, t3, t4, t5, o0, o1, r0, r1, hde, hra, hs0, hs1⟩ := h
  obtain ⟨gm, gg, gp, ga, gd, gmn, gor, gdi, grd, gsd⟩ := hg
  by_cases q : j = 0 <;> simp (disch := omega) only [fX11_isSideOfWar, fX11_isSideOfWar_b19, am_lt, li_0, li_1, li_2, li_3, li_4, li_5, li_6, li_7, li_8, li_9, li_10, li_11, li_12, li_15, li_16, li_20, li_21, li_24, li_25, li_26, li_32, li_33, li_38, li_40, li_41, li_42, li_43, li_45, li_47, li_48, li_57, li_58, li_59, li_60, li_61, li_62, li_63, li_74, li_75, li_84, li_91, li_93, li_98, li_100, li_103, li_105, li_107, li_109, li_110, li_111, li_112, li_115, li_118, li_119, li_120, li_121, li_124, li_140, li_180, li_206, li_240, li_255, li_420, li_520, li_999, li_1000, li_1771, li_8240, li_9999, li_88200, li_1000000, li_2097151, li_31, nI_add, pk_mul, zz_sub, zz_an, nI_clamp, zz_leT, zz_leF, zz_ltT, zz_ltF, zz_eqF, zz_eqT, zz_m1, zz_m2, zz_m3, zz_m4, zz_m5, zz_m6, zz_ck, zz_bl, zz_b3, zz_b2, zz_shl, zz_bt0, zz_bt1, pk_div, Nat.zero_add, Nat.add_zero, if_true, if_false, reduceIte, Nat.mul_zero, zz_or0, zz_inT, zz_inF, hm, hgv, hp, ha, hd, t0, t1, t2, t3, t4, t5, o0, o1, r0, r1]
theorem pc_is0 {g : Nat → Nat → Nat} {I : am_I} (hg : GW g) (h : CS I g) (n d : Nat) (L : am_L) {e : Int32} (he : (e < nI 0 ∨ nI 2 ≤ e) ∨ g 0 0 = 0) : fX11_isSideOfWar n d e I L = some (nI 0, I, L) := by
  obtain ⟨hm, hgv, hp, ha, hd, t0, t1, t2, t3, t4, t5, o0, o1, r0, r1, hde, hra, hs0, hs1⟩ := h
  obtain ⟨gm, gg, gp, ga, gd, gmn, gor, gdi, grd, gsd⟩ := hg
  by_cases q : g 0 0 = 0
  · simp (disch := omega) only [fX11_isSideOfWar, am_lt, li_0, li_1, li_2, li_3, li_4, li_5, li_6, li_7, li_8, li_9, li_10, li_11, li_12, li_15, li_16, li_20, li_21, li_24, li_25, li_26, li_32, li_33, li_38, li_40, li_41, li_42, li_43, li_45, li_47, li_48, li_57, li_58, li_59, li_60, li_61, li_62, li_63, li_74, li_75, li_84, li_91, li_93, li_98, li_100, li_103, li_105, li_107, li_109, li_110, li_111, li_112, li_115, li_118, li_119, li_120, li_121, li_124, li_140, li_180, li_206, li_240, li_255, li_420, li_520, li_999, li_1000, li_1771, li_8240, li_9999, li_88200, li_1000000, li_2097151, li_31, nI_add, pk_mul, zz_sub, zz_an, nI_clamp, zz_leT, zz_leF, zz_ltT, zz_ltF, zz_eqF, zz_eqT, zz_m1, zz_m2, zz_m3, zz_m4, zz_m5, zz_m6, zz_ck, zz_bl, zz_b3, zz_b2, zz_shl, zz_bt0, zz_bt1, pk_div, Nat.zero_add, Nat.add_zero, if_true, if_false, reduceIte, Nat.mul_zero, zz_or0, zz_inT, zz_inF, hm, hgv, hp, ha, hd, t0, t1, t2, t3, t4, t5, o0, o1, r0, r1]
  · have q1 : ¬ e = nI 0 := by rintro rfl; rcases he.resolve_right q with w | w <;> revert w <;> decide
    have q2 : ¬ e = nI 1 := by rintro rfl; rcases he.resolve_right q with w | w <;> revert w <;> decide
    simp (disch := omega) only [fX11_isSideOfWar, q1, q2, am_lt, li_0, li_1, li_2, li_3, li_4, li_5, li_6, li_7, li_8, li_9, li_10, li_11, li_12, li_15, li_16, li_20, li_21, li_24, li_25, li_26, li_32, li_33, li_38, li_40, li_41, li_42, li_43, li_45, li_47, li_48, li_57, li_58, li_59, li_60, li_61, li_62, li_63, li_74, li_75, li_84, li_91, li_93, li_98, li_100, li_103, li_105, li_107, li_109, li_110, li_111, li_112, li_115, li_118, li_119, li_120, li_121, li_124, li_140, li_180, li_206, li_240, li_255, li_420, li_520, li_999, li_1000, li_1771, li_8240, li_9999, li_88200, li_1000000, li_2097151, li_31, nI_add, pk_mul, zz_sub, zz_an, nI_clamp, zz_leT, zz_leF, zz_ltT, zz_ltF, zz_eqF, zz_eqT, zz_m1, zz_m2, zz_m3, zz_m4, zz_m5, zz_m6, zz_ck, zz_bl, zz_b3, zz_b2, zz_shl, zz_bt0, zz_bt1, pk_div, Nat.zero_add, Nat.add_zero, if_true, if_false, reduceIte, Nat.mul_zero, zz_or0, zz_inT, zz_inF, hm, hgv, hp, ha, hd, t0, t1, t2, t3, t4, t5, o0, o1, r0, r1]
theorem pm_ahead {g : Nat → Nat → Nat} {I : am_I} (hg : GW g) (h : MS I g) (n d : Nat) (L : am_L) {m o : Nat} (hj : m < g 0 0) (ho : o < g 0 1) : fX12_isAhead n d (nI m) (nI o) I L = some (if g 7 o < g 9 m then nI 1 else nI 0, I, L) := by
  obtain ⟨hm, hgv, hp, ha, hd, t0, t1, t2, t3, t4, t5, o0, o1, r0, r1, r2⟩ := h
  obtain ⟨gm, gg, gp, ga, gd, gmn, gor, gdi, grd, gsd⟩ := hg
  have b1 := grd m hj
  have b2 := gor o ho
  by_cases c : g 7 o < g 9 m <;> simp (disch := omega) only [fX12_isAhead, am_lt, li_0, li_1, li_2, li_3, li_4, li_5, li_6, li_7, li_8, li_9, li_10, li_11, li_12, li_15, li_16, li_20, li_21, li_24, li_25, li_26, li_32, li_33, li_38, li_40, li_41, li_42, li_43, li_45, li_47, li_48, li_57, li_58, li_59, li_60, li_61, li_62, li_63, li_74, li_75, li_84, li_91, li_93, li_98, li_100, li_103, li_105, li_107, li_109, li_110, li_111, li_112, li_115, li_118, li_119, li_120, li_121, li_124, li_140, li_180, li_206, li_240, li_255, li_420, li_520, li_999, li_1000, li_1771, li_8240, li_9999, li_88200, li_1000000, li_2097151, li_31, nI_add, pk_mul, zz_sub, zz_an, nI_clamp, zz_leT, zz_leF, zz_ltT, zz_ltF, zz_eqF, zz_eqT, zz_m1, zz_m2, zz_m3, zz_m4, zz_m5, zz_m6, zz_ck, zz_bl, zz_b3, zz_b2, zz_shl, zz_bt0, zz_bt1, pk_div, Nat.zero_add, Nat.add_zero, if_true, if_false, reduceIte, Nat.mul_zero, zz_or0, zz_inT, zz_inF, hm, hgv, hp, ha, hd, t0, t1, t2, t3, t4, t5, o0, o1, r0, r1, r2, c]
def g_away (g : Nat → Nat → Nat) (m : Nat) : Nat → Nat
  | 0 => g 9 m + g 10 m
  | i + 1 => if g 7 i < g 9 m then g_away g m i + g 8 i else g_away g m i
theorem pc_awayL {g : Nat → Nat → Nat} {I : am_I} (hg : GW g) (h : CS I g) (n d : Nat) (L : am_L) {m : Nat} (h2 : m < g 0 0) : ∀ (j i F : Nat), i + j = g 0 1 → j < F → fX11_away_b35 n d F (nI m) (nI (g_away g m i)) (nI i) I L = some (nI (g_away g m (g 0 1)), I, L)
  | _, _, 0, _, f => by omega
  | 0, i, F + 1, e, f => by
    have h0 := h; obtain ⟨hm, hgv, hp, ha, hd, t0, t1, t2, t3, t4, t5, o0, o1, r0, r1, hde, hra, hs0, hs1⟩ := h; have hg2 := hg; obtain ⟨gm, gg, gp, ga, gd, gmn, gor, gdi, grd, gsd⟩ := hg
    have e1 : i = g 0 1 := by omega
    subst e1
    simp (disch := omega) only [fX11_away_b35, fX11_away_b35w, fX11_away_b81, am_lt, li_0, li_1, li_2, li_3, li_4, li_5, li_6, li_7, li_8, li_9, li_10, li_11, li_12, li_15, li_16, li_20, li_21, li_24, li_25, li_26, li_32, li_33, li_38, li_40, li_41, li_42, li_43, li_45, li_47, li_48, li_57, li_58, li_59, li_60, li_61, li_62, li_63, li_74, li_75, li_84, li_91, li_93, li_98, li_100, li_103, li_105, li_107, li_109, li_110, li_111, li_112, li_115, li_118, li_119, li_120, li_121, li_124, li_140, li_180, li_206, li_240, li_255, li_420, li_520, li_999, li_1000, li_1771, li_8240, li_9999, li_88200, li_1000000, li_2097151, li_31, nI_add, pk_mul, zz_sub, zz_an, nI_clamp, zz_leT, zz_leF, zz_ltT, zz_ltF, zz_eqF, zz_eqT, zz_m1, zz_m2, zz_m3, zz_m4, zz_m5, zz_m6, zz_ck, zz_bl, zz_b3, zz_b2, zz_shl, zz_bt0, zz_bt1, pk_div, Nat.zero_add, Nat.add_zero, if_true, if_false, reduceIte, Nat.mul_zero, zz_or0, zz_inT, zz_inF, hm, hgv, hp, ha, hd, t0, t1, t2, t3, t4, t5, o0, o1, r0, r1]
  | j + 1, i, F + 1, e, f => by
    have h0 := h; obtain ⟨hm, hgv, hp, ha, hd, t0, t1, t2, t3, t4, t5, o0, o1, r0, r1, hde, hra, hs0, hs1⟩ := h; have hg2 := hg; obtain ⟨gm, gg, gp, ga, gd, gmn, gor, gdi, grd, gsd⟩ := hg
    have i1 : i < g 0 1 := by omega
    have b1 := grd m h2
    have b2 := gor i i1
    by_cases c0 : g 7 i < g 9 m <;> (have ih := pc_awayL hg2 h0 n d L h2 j (i + 1) F (by omega) (by omega); simp (disch := omega) only [g_away, c0, if_true, if_false, reduceIte, and_true, and_false, true_and, false_and, or_true, or_false, true_or, false_or, not_true, not_false_iff] at ih; simp (disch := omega) only [fX11_away_b35, fX11_away_b35w, fX11_away_b81, am_lt, li_0, li_1, li_2, li_3, li_4, li_5, li_6, li_7, li_8, li_9, li_10, li_11, li_12, li_15, li_16, li_20, li_21, li_24, li_25, li_26, li_32, li_33, li_38, li_40, li_41, li_42, li_43, li_45, li_47, li_48, li_57, li_58, li_59, li_60, li_61, li_62, li_63, li_74, li_75, li_84, li_91, li_93, li_98, li_100, li_103, li_105, li_107, li_109, li_110, li_111, li_112, li_115, li_118, li_119, li_120, li_121, li_124, li_140, li_180, li_206, li_240, li_255, li_420, li_520, li_999, li_1000, li_1771, li_8240, li_9999, li_88200, li_1000000, li_2097151, li_31, nI_add, pk_mul, zz_sub, zz_an, nI_clamp, zz_leT, zz_leF, zz_ltT, zz_ltF, zz_eqF, zz_eqT, zz_m1, zz_m2, zz_m3, zz_m4, zz_m5, zz_m6, zz_ck, zz_bl, zz_b3, zz_b2, zz_shl, zz_bt0, zz_bt1, pk_div, Nat.zero_add, Nat.add_zero, if_true, if_false, reduceIte, Nat.mul_zero, zz_or0, zz_inT, zz_inF, hm, hgv, hp, ha, hd, t0, t1, t2, t3, t4, t5, o0, o1, r0, r1, c0]; exact ih)
theorem pm_awayL {g : Nat → Nat → Nat} {I : am_I} (hg : GW g) (h : MS I g) (n d : Nat) (L : am_L) {m : Nat} (h2 : m < g 0 0) : ∀ (j i F : Nat), i + j = g 0 1 → j < F → fX12_away_b31 n d F (nI m) (nI (g_away g m i)) (nI i) I L = some (nI (g_away g m (g 0 1)), I, L)
  | _, _, 0, _, f => by omega
  | 0, i, F + 1, e, f => by
    have h0 := h; obtain ⟨hm, hgv, hp, ha, hd, t0, t1, t2, t3, t4, t5, o0, o1, r0, r1, r2⟩ := h; have hg2 := hg; obtain ⟨gm, gg, gp, ga, gd, gmn, gor, gdi, grd, gsd⟩ := hg
    have e1 : i = g 0 1 := by omega
    subst e1
    simp (disch := omega) only [fX12_away_b31, fX12_away_b31w, fX12_away_b63, pm_ahead hg2 h0 n d L h2, am_lt, li_0, li_1, li_2, li_3, li_4, li_5, li_6, li_7, li_8, li_9, li_10, li_11, li_12, li_15, li_16, li_20, li_21, li_24, li_25, li_26, li_32, li_33, li_38, li_40, li_41, li_42, li_43, li_45, li_47, li_48, li_57, li_58, li_59, li_60, li_61, li_62, li_63, li_74, li_75, li_84, li_91, li_93, li_98, li_100, li_103, li_105, li_107, li_109, li_110, li_111, li_112, li_115, li_118, li_119, li_120, li_121, li_124, li_140, li_180, li_206, li_240, li_255, li_420, li_520, li_999, li_1000, li_1771, li_8240, li_9999, li_88200, li_1000000, li_2097151, li_31, nI_add, pk_mul, zz_sub, zz_an, nI_clamp, zz_leT, zz_leF, zz_ltT, zz_ltF, zz_eqF, zz_eqT, zz_m1, zz_m2, zz_m3, zz_m4, zz_m5, zz_m6, zz_ck, zz_bl, zz_b3, zz_b2, zz_shl, zz_bt0, zz_bt1, pk_div, Nat.zero_add, Nat.add_zero, if_true, if_false, reduceIte, Nat.mul_zero, zz_or0, zz_inT, zz_inF, hm, hgv, hp, ha, hd, t0, t1, t2, t3, t4, t5, o0, o1, r0, r1, r2]
  | j + 1, i, F + 1, e, f => by
    have h0 := h; obtain ⟨hm, hgv, hp, ha, hd, t0, t1, t2, t3, t4, t5, o0, o1, r0, r1, r2⟩ := h; have hg2 := hg; obtain ⟨gm, gg, gp, ga, gd, gmn, gor, gdi, grd, gsd⟩ := hg
    have i1 : i < g 0 1 := by omega
    have b1 := grd m h2
    have b2 := gor i i1
    by_cases c0 : g 7 i < g 9 m <;> (have ih := pm_awayL hg2 h0 n d L h2 j (i + 1) F (by omega) (by omega); simp (disch := omega) only [g_away, c0, if_true, if_false, reduceIte, and_true, and_false, true_and, false_and, or_true, or_false, true_or, false_or, not_true, not_false_iff] at ih; simp (disch := omega) only [fX12_away_b31, fX12_away_b31w, fX12_away_b63, pm_ahead hg2 h0 n d L h2, am_lt, li_0, li_1, li_2, li_3, li_4, li_5, li_6, li_7, li_8, li_9, li_10, li_11, li_12, li_15, li_16, li_20, li_21, li_24, li_25, li_26, li_32, li_33, li_38, li_40, li_41, li_42, li_43, li_45, li_47, li_48, li_57, li_58, li_59, li_60, li_61, li_62, li_63, li_74, li_75, li_84, li_91, li_93, li_98, li_100, li_103, li_105, li_107, li_109, li_110, li_111, li_112, li_115, li_118, li_119, li_120, li_121, li_124, li_140, li_180, li_206, li_240, li_255, li_420, li_520, li_999, li_1000, li_1771, li_8240, li_9999, li_88200, li_1000000, li_2097151, li_31, nI_add, pk_mul, zz_sub, zz_an, nI_clamp, zz_leT, zz_leF, zz_ltT, zz_ltF, zz_eqF, zz_eqT, zz_m1, zz_m2, zz_m3, zz_m4, zz_m5, zz_m6, zz_ck, zz_bl, zz_b3, zz_b2, zz_shl, zz_bt0, zz_bt1, pk_div, Nat.zero_add, Nat.add_zero, if_true, if_false, reduceIte, Nat.mul_zero, zz_or0, zz_inT, zz_inF, hm, hgv, hp, ha, hd, t0, t1, t2, t3, t4, t5, o0, o1, r0, r1, r2, c0]; exact ih)
theorem op_away {g : Nat → Nat → Nat} {IC IM : am_I} (hg : GW g) (hc : CS IC g) (h : MS IM g) (LC LM : am_L) (e : Int32) : am_same (fX11_away am_N 1900 e IC LC) (fX12_away am_N 1900 e IM LM) IC LC IM LM := by
  have gm := hg.1
  have gg := hg.2.1
  rcases ix_of e (n := g 0 0) (by omega) with he | ⟨m, hj, rfl⟩
  · exact ⟨-nI 1, by simp (disch := omega) only [fX11_away, pc_man0 hg hc am_N 1900 LC he, am_lt, li_0, li_1, li_2, li_3, li_4, li_5, li_6, li_7, li_8, li_9, li_10, li_11, li_12, li_15, li_16, li_20, li_21, li_24, li_25, li_26, li_32, li_33, li_38, li_40, li_41, li_42, li_43, li_45, li_47, li_48, li_57, li_58, li_59, li_60, li_61, li_62, li_63, li_74, li_75, li_84, li_91, li_93, li_98, li_100, li_103, li_105, li_107, li_109, li_110, li_111, li_112, li_115, li_118, li_119, li_120, li_121, li_124, li_140, li_180, li_206, li_240, li_255, li_420, li_520, li_999, li_1000, li_1771, li_8240, li_9999, li_88200, li_1000000, li_2097151, li_31, nI_add, pk_mul, zz_sub, zz_an, nI_clamp, zz_leT, zz_leF, zz_ltT, zz_ltF, zz_eqF, zz_eqT, zz_m1, zz_m2, zz_m3, zz_m4, zz_m5, zz_m6, zz_ck, zz_bl, zz_b3, zz_b2, zz_shl, zz_bt0, zz_bt1, pk_div, Nat.zero_add, Nat.add_zero, if_true, if_false, reduceIte, Nat.mul_zero, zz_or0, zz_inT, zz_inF], by simp (disch := omega) only [fX12_away, pm_man0 hg h am_N 1900 LM he, am_lt, li_0, li_1, li_2, li_3, li_4, li_5, li_6, li_7, li_8, li_9, li_10, li_11, li_12, li_15, li_16, li_20, li_21, li_24, li_25, li_26, li_32, li_33, li_38, li_40, li_41, li_42, li_43, li_45, li_47, li_48, li_57, li_58, li_59, li_60, li_61, li_62, li_63, li_74, li_75, li_84, li_91, li_93, li_98, li_100, li_103, li_105, li_107, li_109, li_110, li_111, li_112, li_115, li_118, li_119, li_120, li_121, li_124, li_140, li_180, li_206, li_240, li_255, li_420, li_520, li_999, li_1000, li_1771, li_8240, li_9999, li_88200, li_1000000, li_2097151, li_31, nI_add, pk_mul, zz_sub, zz_an, nI_clamp, zz_leT, zz_leF, zz_ltT, zz_ltF, zz_eqF, zz_eqT, zz_m1, zz_m2, zz_m3, zz_m4, zz_m5, zz_m6, zz_ck, zz_bl, zz_b3, zz_b2, zz_shl, zz_bt0, zz_bt1, pk_div, Nat.zero_add, Nat.add_zero, if_true, if_false, reduceIte, Nat.mul_zero, zz_or0, zz_inT, zz_inF]⟩
  · refine ⟨nI (g_away g m (g 0 1)), ?_, ?_⟩
    · have h := hc
      obtain ⟨hm, hgv, hp, ha, hd, t0, t1, t2, t3, t4, t5, o0, o1, r0, r1, hde, hra, hs0, hs1⟩ := h
      have := pc_awayL hg hc am_N 1900 LC hj (g 0 1) 0 am_N (by omega) (by unfold am_N; omega)
      simp (disch := omega) only [fX11_away, pc_man1 hg hc am_N 1900 LC hj, am_lt, li_0, li_1, li_2, li_3, li_4, li_5, li_6, li_7, li_8, li_9, li_10, li_11, li_12, li_15, li_16, li_20, li_21, li_24, li_25, li_26, li_32, li_33, li_38, li_40, li_41, li_42, li_43, li_45, li_47, li_48, li_57, li_58, li_59, li_60, li_61, li_62, li_63, li_74, li_75, li_84, li_91, li_93, li_98, li_100, li_103, li_105, li_107, li_109, li_110, li_111, li_112, li_115, li_118, li_119, li_120, li_121, li_124, li_140, li_180, li_206, li_240, li_255, li_420, li_520, li_999, li_1000, li_1771, li_8240, li_9999, li_88200, li_1000000, li_2097151, li_31, nI_add, pk_mul, zz_sub, zz_an, nI_clamp, zz_leT, zz_leF, zz_ltT, zz_ltF, zz_eqF, zz_eqT, zz_m1, zz_m2, zz_m3, zz_m4, zz_m5, zz_m6, zz_ck, zz_bl, zz_b3, zz_b2, zz_shl, zz_bt0, zz_bt1, pk_div, Nat.zero_add, Nat.add_zero, if_true, if_false, reduceIte, Nat.mul_zero, zz_or0, zz_inT, zz_inF, hm, hgv, hp, ha, hd, t0, t1, t2, t3, t4, t5, o0, o1, r0, r1]
      exact this
    · have h0 := h
      obtain ⟨hm, hgv, hp, ha, hd, t0, t1, t2, t3, t4, t5, o0, o1, r0, r1, r2⟩ := h
      have := pm_awayL hg h0 am_N 1900 LM hj (g 0 1) 0 am_N (by omega) (by unfold am_N; omega)
      simp (disch := omega) only [fX12_away, pm_man1 hg h0 am_N 1900 LM hj, am_lt, li_0, li_1, li_2, li_3, li_4, li_5, li_6, li_7, li_8, li_9, li_10, li_11, li_12, li_15, li_16, li_20, li_21, li_24, li_25, li_26, li_32, li_33, li_38, li_40, li_41, li_42, li_43, li_45, li_47, li_48, li_57, li_58, li_59, li_60, li_61, li_62, li_63, li_74, li_75, li_84, li_91, li_93, li_98, li_100, li_103, li_105, li_107, li_109, li_110, li_111, li_112, li_115, li_118, li_119, li_120, li_121, li_124, li_140, li_180, li_206, li_240, li_255, li_420, li_520, li_999, li_1000, li_1771, li_8240, li_9999, li_88200, li_1000000, li_2097151, li_31, nI_add, pk_mul, zz_sub, zz_an, nI_clamp, zz_leT, zz_leF, zz_ltT, zz_ltF, zz_eqF, zz_eqT, zz_m1, zz_m2, zz_m3, zz_m4, zz_m5, zz_m6, zz_ck, zz_bl, zz_b3, zz_b2, zz_shl, zz_bt0, zz_bt1, pk_div, Nat.zero_add, Nat.add_zero, if_true, if_false, reduceIte, Nat.mul_zero, zz_or0, zz_inT, zz_inF, hm, hgv, hp, ha, hd, t0, t1, t2, t3, t4, t5, o0, o1, r0, r1, r2]
      exact this
