/-! PURE: the class's log and past; states made of parts. -/
theorem nn_xor {a b : Int32} (ha : 0 ≤ a.toInt) (hb : 0 ≤ b.toInt) : (0 : Int32) ≤ a ^^^ b := by
  apply Int32.le_iff_toInt_le.mpr
  have h : (a ^^^ b).toBitVec.msb = false := by
    rw [Int32.toBitVec_xor, BitVec.msb_xor, BitVec.msb_eq_toInt, BitVec.msb_eq_toInt]
    have h1 : decide (a.toBitVec.toInt < 0) = false := decide_eq_false (fun h => by have : 0 ≤ a.toBitVec.toInt := ha; omega)
    have h2 : decide (b.toBitVec.toInt < 0) = false := decide_eq_false (fun h => by have : 0 ≤ b.toBitVec.toInt := hb; omega)
    rw [h1, h2]
    rfl
  rw [BitVec.msb_eq_toInt] at h
  have := of_decide_eq_false h
  show (0 : Int32).toInt ≤ (a ^^^ b).toBitVec.toInt
  have z : (0 : Int32).toInt = 0 := rfl
  omega
theorem J_fm (n d a b : Nat) (I : am_I) (L : am_L) (ha : a < 2147483648) (h0 : 0 < b) (hb : b < 2147483648) : fJ9_floorMod_7cf53 n d (nI a) (nI b) I L = some (nI (a % b), I, L) := by
  unfold fJ9_floorMod_7cf53
  rw [if_neg (by rw [li_0, zz_eqF (by omega)]; exact not_false), pk_rem (by omega) h0 (by omega), zz_lt, if_pos (nn_xor (by rw [nI_toInt (by omega)]; omega) (by rw [nI_toInt (by omega)]; omega))]
theorem J_fm1 (n d : Nat) (I : am_I) (L : am_L) : fJ9_floorMod_7cf53 n d (nI 0 - nI 1) (nI 40) I L = some (nI 39, I, L) := by
  unfold fJ9_floorMod_7cf53
  rw [if_neg (by decide), zz_lt, if_neg (by decide), if_neg (by decide)]
  rfl
/-- what does not change from day to day is the same -/
def SA (g g' : Nat → Nat → Nat) : Prop := (∀ p, p ≠ 9 → p ≠ 10 → p ≠ 11 → p ≠ 0 → g' p = g p) ∧ (∀ q, q < 4 → g' 0 q = g 0 q)
theorem gR_sa {g g' : Nat → Nat → Nat} (sa : SA g g') (s : Nat) : ∀ j i, gR g' s j i = gR g s j i
  | 0, _ => rfl
  | j + 1, i => by
    unfold gR
    rw [gR_sa sa s j (i + 1), sa.1 7 (by omega) (by omega) (by omega) (by omega), sa.1 8 (by omega) (by omega) (by omega) (by omega)]
theorem gRest_sa {g g' : Nat → Nat → Nat} (sa : SA g g') (s : Nat) : gRest g' s = gRest g s := by
  unfold gRest
  rw [sa.2 1 (by omega), gR_sa sa]
/-- a state of the road -/
def RV (g s : Nat → Nat → Nat) : Prop := (∀ m, m < g 0 0 → s 9 m ≤ 20 ∧ s 10 m ≤ gRest g (s 9 m) ∧ s 11 m ≤ 1) ∧ s 0 4 ≤ 9999
theorem RV_g {g : Nat → Nat → Nat} (hg : GW g) : RV g g := ⟨hg.2.2.2.2.2.2.2.2.1, hg.2.2.2.2.1⟩
theorem RV_sa {g g' s : Nat → Nat → Nat} (sa : SA g g') (h : RV g s) : RV g' s := by
  refine ⟨fun m hm => ?_, h.2⟩
  rw [sa.2 0 (by omega)] at hm
  rw [gRest_sa sa]
  exact h.1 m hm
theorem GW_mk {g g' : Nat → Nat → Nat} (hg : GW g) (sa : SA g g') (rv : RV g g') : GW g' := by
  obtain ⟨gm, gg, gp, ga, gd, gmn, gor, gdi, grd, gsd⟩ := hg
  have z0 := sa.2 0 (by omega)
  have z1 := sa.2 1 (by omega)
  have z2 := sa.2 2 (by omega)
  have z3 := sa.2 3 (by omega)
  unfold GW
  rw [z0, z1, z2, z3, sa.1 1 (by omega) (by omega) (by omega) (by omega), sa.1 2 (by omega) (by omega) (by omega) (by omega), sa.1 3 (by omega) (by omega) (by omega) (by omega), sa.1 4 (by omega) (by omega) (by omega) (by omega), sa.1 5 (by omega) (by omega) (by omega) (by omega), sa.1 6 (by omega) (by omega) (by omega) (by omega), sa.1 7 (by omega) (by omega) (by omega) (by omega), sa.1 8 (by omega) (by omega) (by omega) (by omega)]
  exact ⟨gm, gg, gp, ga, rv.2, gmn, gor, gdi, fun m hm => by rw [gRest_sa sa]; exact rv.1 m hm, gsd⟩
theorem CS_mk {g g' : Nat → Nat → Nat} {I I' : am_I} (h : CS I g) (sa : SA g g') (e : ∀ k, 3 ≤ k → k ≤ 13 → I' k = I k) (hd : I' 39 5 = nI (g' 0 4)) (h9 : ∀ m, m < g 0 0 → I' 40 m = nI (g' 9 m)) (h10 : ∀ m, m < g 0 0 → I' 41 m = nI (g' 10 m)) (h11 : I' 39 4 = am_bits (fun m => decide (g' 11 m = 1)) (g 0 0)) : CS I' g' := by
  obtain ⟨hm, hgv, hp, ha, _, t0, t1, t2, t3, t4, t5, o0, o1, r0, r1, hde, hra, hs0, hs1⟩ := h
  have z0 := sa.2 0 (by omega)
  have z1 := sa.2 1 (by omega)
  have z2 := sa.2 2 (by omega)
  have z3 := sa.2 3 (by omega)
  unfold CS
  rw [e 3 (by omega) (by omega), e 4 (by omega) (by omega), e 5 (by omega) (by omega), e 6 (by omega) (by omega), e 7 (by omega) (by omega), e 8 (by omega) (by omega), e 9 (by omega) (by omega), e 10 (by omega) (by omega), e 11 (by omega) (by omega), e 12 (by omega) (by omega), e 13 (by omega) (by omega), z0, z1, z2, z3, sa.1 1 (by omega) (by omega) (by omega) (by omega), sa.1 2 (by omega) (by omega) (by omega) (by omega), sa.1 3 (by omega) (by omega) (by omega) (by omega), sa.1 4 (by omega) (by omega) (by omega) (by omega), sa.1 5 (by omega) (by omega) (by omega) (by omega), sa.1 6 (by omega) (by omega) (by omega) (by omega), sa.1 7 (by omega) (by omega) (by omega) (by omega), sa.1 8 (by omega) (by omega) (by omega) (by omega)]
  exact ⟨hm, hgv, hp, ha, hd, t0, t1, t2, t3, t4, t5, o0, o1, h9, h10, h11, fun s hs => by rw [gRest_sa sa]; exact hra s hs, hs0, hs1⟩
theorem MS_mk {g g' : Nat → Nat → Nat} {I I' : am_I} (h : MS I g) (sa : SA g g') (e25 : I' 0 25 = I 0 25) (e26 : I' 0 26 = I 0 26) (e : ∀ k, 14 ≤ k → k ≤ 16 → I' k = I k) (hd : I' 17 24 = nI (g' 0 4)) (h9 : ∀ m, m < g 0 0 → I' 17 m = nI (g' 9 m)) (h10 : ∀ m, m < g 0 0 → I' 17 (8 + m) = nI (g' 10 m)) (h11 : ∀ m, m < g 0 0 → I' 17 (16 + m) = nI (g' 11 m)) : MS I' g' := by
  obtain ⟨hm, hgv, hp, ha, _, t0, t1, t2, t3, t4, t5, o0, o1, r0, r1, r2⟩ := h
  have z0 := sa.2 0 (by omega)
  have z1 := sa.2 1 (by omega)
  have z2 := sa.2 2 (by omega)
  have z3 := sa.2 3 (by omega)
  unfold MS
  rw [e25, e26, e 14 (by omega) (by omega), e 15 (by omega) (by omega), e 16 (by omega) (by omega), z0, z1, z2, z3, sa.1 1 (by omega) (by omega) (by omega) (by omega), sa.1 2 (by omega) (by omega) (by omega) (by omega), sa.1 3 (by omega) (by omega) (by omega) (by omega), sa.1 4 (by omega) (by omega) (by omega) (by omega), sa.1 5 (by omega) (by omega) (by omega) (by omega), sa.1 6 (by omega) (by omega) (by omega) (by omega), sa.1 7 (by omega) (by omega) (by omega) (by omega), sa.1 8 (by omega) (by omega) (by omega) (by omega)]
  exact ⟨hm, hgv, hp, ha, hd, t0, t1, t2, t3, t4, t5, o0, o1, h9, h10, h11⟩
theorem CL_up {I I' : am_I} {W : Nat → (Nat → Nat) → Int32} {q : Nat → Nat} (hl : GL q) (h : CL I W q) (e : ∀ k, 29 ≤ k → k ≤ 35 → I' k = I k) : CL I' W q := by
  have b := hl.1
  exact ⟨by rw [e 29 (by omega) (by omega)]; exact h.1, by rw [e 29 (by omega) (by omega)]; exact h.2.1, fun l hl => CLaw_of (h.2.2 l hl) (fun j => by rw [e _ (by omega) (by omega)]) (by rw [e _ (by omega) (by omega)])⟩
theorem ML_up {I I' : am_I} {W : Nat → (Nat → Nat) → Int32} {q : Nat → Nat} (h : ML I W q) (e0 : I' 0 13 = I 0 13) (e1 : I' 0 28 = I 0 28) (e : ∀ k, 2 ≤ k → k ≤ 8 → I' k = I k) : ML I' W q := ⟨e0.trans h.1, e1.trans h.2.1, fun l hl => MLaw_of (h.2.2 l hl) (fun k j c => by
  have : 2 ≤ k ∧ k ≤ 8 := by
    unfold cdM at c
    split at c <;> first | omega | (cases c)
  rw [e k this.1 this.2])⟩
theorem gh_sa {W : Nat → (Nat → Nat) → Int32} {g g' : Nat → Nat → Nat} (sa : SA g g') (hd : g' 0 4 = g 0 4) {m : Nat} (h9 : g' 9 m = g 9 m) (l : Nat) : gh W g' l m = gh W g l m := by
  have e : lam g' m = lam g m := by
    funext i
    unfold lam
    rw [h9, hd, sa.1 1 (by omega) (by omega) (by omega) (by omega), sa.1 4 (by omega) (by omega) (by omega) (by omega), sa.1 5 (by omega) (by omega) (by omega) (by omega), sa.1 6 (by omega) (by omega) (by omega) (by omega)]
  unfold gh
  rw [e, h9]
theorem CH_mk {W : Nat → (Nat → Nat) → Int32} {q : Nat → Nat} {g : Nat → Nat → Nat} {I : am_I} (hg : GW g) (h1 : ∀ k, k < g 0 0 → bt (I 39 6) k = gh W g (q 1) k) (h2 : ∀ k, g 0 0 ≤ k → k < 32 → bt (I 39 6) k = false) : CH I W q g := by
  have b := hg.1
  apply b_ext
  intro k hk
  rw [bt_bits _ _ (by omega) _ hk]
  by_cases z : k < g 0 0
  · rw [h1 k z]; simp [z]
  · rw [h2 k (by omega) hk]; simp [z]
theorem CH_lo {W : Nat → (Nat → Nat) → Int32} {g : Nat → Nat → Nat} {q : Nat → Nat} {I : am_I} (hg : GW g) (h : CH I W q g) : ∀ k, k < g 0 0 → bt (I 39 6) k = gh W g (q 1) k := by
  intro k hk
  have b := hg.1
  rw [show I 39 6 = am_bits (gh W g (q 1)) (g 0 0) from h, bt_bits _ _ (by omega) _ (by omega)]
  simp [hk]
/-- a kept state of the class -/
def PK (I : am_I) (L : am_L) (μ j : Nat) (s : Nat → Nat → Nat) : Prop := L 46 j = lN (pkd 5 (s 9) μ) ∧ L 47 j = lN (pkd 4 (s 10) μ) ∧ I 48 j = am_bits (fun m => decide (s 11 m = 1)) μ ∧ I 49 j = nI (s 0 4)
theorem pc_packS {g : Nat → Nat → Nat} {I : am_I} (hg : GW g) (h : CS I g) (n d : Nat) (L : am_L) : ∀ (j i F : Nat), i + j = g 0 0 → j < F → fX7_packedSteps_b4 n d F (lN (pkd 5 (g 9) i)) (nI i) I L = some (lN (pkd 5 (g 9) (g 0 0)), I, L)
  | _, _, 0, _, f => by omega
  | 0, i, F + 1, e, f => by
    obtain ⟨hm, hgv, hp, ha, hd, t0, t1, t2, t3, t4, t5, o0, o1, r0, r1, hde, hra, hs0, hs1⟩ := h
    obtain ⟨gm, gg, gp, ga, gd, gmn, gor, gdi, grd, gsd⟩ := hg
    have e1 : i = g 0 0 := by omega
    subst e1
    simp (disch := omega) only [fX7_packedSteps_b4, fX7_packedSteps_b4w, zz_lt, li_0, li_1, li_2, li_3, li_4, li_5, li_6, li_7, li_8, li_9, li_10, li_11, li_12, li_15, li_16, li_20, li_21, li_24, li_25, li_26, li_32, li_33, li_38, li_40, li_41, li_42, li_43, li_45, li_47, li_48, li_57, li_58, li_59, li_60, li_61, li_62, li_63, li_74, li_75, li_84, li_91, li_93, li_98, li_100, li_103, li_105, li_107, li_109, li_110, li_111, li_112, li_115, li_118, li_119, li_120, li_121, li_124, li_140, li_180, li_206, li_240, li_255, li_420, li_520, li_999, li_1000, li_1771, li_8240, li_9999, li_88200, li_1000000, li_2097151, li_31, nI_add, pk_mul, zz_sub, zz_an, nI_clamp, zz_leT, zz_leF, zz_ltT, zz_ltF, zz_eqF, zz_eqT, zz_m1, zz_m2, zz_m3, zz_m4, zz_m5, zz_m6, zz_ck, zz_bl, zz_b3, zz_b2, zz_shl, zz_bt0, zz_bt1, pk_div, Nat.zero_add, Nat.add_zero, if_true, if_false, reduceIte, Nat.mul_zero, zz_or0, zz_inT, zz_inF, hm]
  | j + 1, i, F + 1, e, f => by
    have ih := pc_packS hg h n d L j (i + 1) F (by omega) (by omega)
    obtain ⟨hm, hgv, hp, ha, hd, t0, t1, t2, t3, t4, t5, o0, o1, r0, r1, hde, hra, hs0, hs1⟩ := h
    obtain ⟨gm, gg, gp, ga, gd, gmn, gor, gdi, grd, gsd⟩ := hg
    have i1 : i < g 0 0 := by omega
    have q := lk_or (P := pkd 5 (g 9) i) (x := g 9 i) (k := i * 5) (by omega) (pkd_lt i (fun m hm => by have := grd m (by omega); omega)) (by have := grd i i1; omega)
    simp (disch := omega) only [fX7_packedSteps_b4, fX7_packedSteps_b4w, zz_lt, li_0, li_1, li_2, li_3, li_4, li_5, li_6, li_7, li_8, li_9, li_10, li_11, li_12, li_15, li_16, li_20, li_21, li_24, li_25, li_26, li_32, li_33, li_38, li_40, li_41, li_42, li_43, li_45, li_47, li_48, li_57, li_58, li_59, li_60, li_61, li_62, li_63, li_74, li_75, li_84, li_91, li_93, li_98, li_100, li_103, li_105, li_107, li_109, li_110, li_111, li_112, li_115, li_118, li_119, li_120, li_121, li_124, li_140, li_180, li_206, li_240, li_255, li_420, li_520, li_999, li_1000, li_1771, li_8240, li_9999, li_88200, li_1000000, li_2097151, li_31, nI_add, pk_mul, zz_sub, zz_an, nI_clamp, zz_leT, zz_leF, zz_ltT, zz_ltF, zz_eqF, zz_eqT, zz_m1, zz_m2, zz_m3, zz_m4, zz_m5, zz_m6, zz_ck, zz_bl, zz_b3, zz_b2, zz_shl, zz_bt0, zz_bt1, pk_div, Nat.zero_add, Nat.add_zero, if_true, if_false, reduceIte, Nat.mul_zero, zz_or0, zz_inT, zz_inF, hm, r0, q]
    exact ih
theorem pc_packR {g : Nat → Nat → Nat} {I : am_I} (hg : GW g) (h : CS I g) (n d : Nat) (L : am_L) : ∀ (j i F : Nat), i + j = g 0 0 → j < F → fX7_packedRests_b4 n d F (lN (pkd 4 (g 10) i)) (nI i) I L = some (lN (pkd 4 (g 10) (g 0 0)), I, L)
  | _, _, 0, _, f => by omega
  | 0, i, F + 1, e, f => by
    obtain ⟨hm, hgv, hp, ha, hd, t0, t1, t2, t3, t4, t5, o0, o1, r0, r1, hde, hra, hs0, hs1⟩ := h
    obtain ⟨gm, gg, gp, ga, gd, gmn, gor, gdi, grd, gsd⟩ := hg
    have e1 : i = g 0 0 := by omega
    subst e1
    simp (disch := omega) only [fX7_packedRests_b4, fX7_packedRests_b4w, zz_lt, li_0, li_1, li_2, li_3, li_4, li_5, li_6, li_7, li_8, li_9, li_10, li_11, li_12, li_15, li_16, li_20, li_21, li_24, li_25, li_26, li_32, li_33, li_38, li_40, li_41, li_42, li_43, li_45, li_47, li_48, li_57, li_58, li_59, li_60, li_61, li_62, li_63, li_74, li_75, li_84, li_91, li_93, li_98, li_100, li_103, li_105, li_107, li_109, li_110, li_111, li_112, li_115, li_118, li_119, li_120, li_121, li_124, li_140, li_180, li_206, li_240, li_255, li_420, li_520, li_999, li_1000, li_1771, li_8240, li_9999, li_88200, li_1000000, li_2097151, li_31, nI_add, pk_mul, zz_sub, zz_an, nI_clamp, zz_leT, zz_leF, zz_ltT, zz_ltF, zz_eqF, zz_eqT, zz_m1, zz_m2, zz_m3, zz_m4, zz_m5, zz_m6, zz_ck, zz_bl, zz_b3, zz_b2, zz_shl, zz_bt0, zz_bt1, pk_div, Nat.zero_add, Nat.add_zero, if_true, if_false, reduceIte, Nat.mul_zero, zz_or0, zz_inT, zz_inF, hm]
  | j + 1, i, F + 1, e, f => by
    have ih := pc_packR hg h n d L j (i + 1) F (by omega) (by omega)
    have hre := fun s => gRest_le hg s
    obtain ⟨hm, hgv, hp, ha, hd, t0, t1, t2, t3, t4, t5, o0, o1, r0, r1, hde, hra, hs0, hs1⟩ := h
    obtain ⟨gm, gg, gp, ga, gd, gmn, gor, gdi, grd, gsd⟩ := hg
    have i1 : i < g 0 0 := by omega
    have q := lk_or (P := pkd 4 (g 10) i) (x := g 10 i) (k := i * 4) (by omega) (pkd_lt i (fun m hm => by have := grd m (by omega); have := hre (g 9 m); omega)) (by have := grd i i1; have := hre (g 9 i); omega)
    simp (disch := omega) only [fX7_packedRests_b4, fX7_packedRests_b4w, zz_lt, li_0, li_1, li_2, li_3, li_4, li_5, li_6, li_7, li_8, li_9, li_10, li_11, li_12, li_15, li_16, li_20, li_21, li_24, li_25, li_26, li_32, li_33, li_38, li_40, li_41, li_42, li_43, li_45, li_47, li_48, li_57, li_58, li_59, li_60, li_61, li_62, li_63, li_74, li_75, li_84, li_91, li_93, li_98, li_100, li_103, li_105, li_107, li_109, li_110, li_111, li_112, li_115, li_118, li_119, li_120, li_121, li_124, li_140, li_180, li_206, li_240, li_255, li_420, li_520, li_999, li_1000, li_1771, li_8240, li_9999, li_88200, li_1000000, li_2097151, li_31, nI_add, pk_mul, zz_sub, zz_an, nI_clamp, zz_leT, zz_leF, zz_ltT, zz_ltF, zz_eqF, zz_eqT, zz_m1, zz_m2, zz_m3, zz_m4, zz_m5, zz_m6, zz_ck, zz_bl, zz_b3, zz_b2, zz_shl, zz_bt0, zz_bt1, pk_div, Nat.zero_add, Nat.add_zero, if_true, if_false, reduceIte, Nat.mul_zero, zz_or0, zz_inT, zz_inF, hm, r1, q]
    exact ih
theorem pc_keepR {g : Nat → Nat → Nat} {I : am_I} (hg : GW g) (h : CS I g) (n d : Nat) (L : am_L) {j : Nat} (hj : j ≤ 40) (hn : 8 < n) : fX6_keep_road n d (nI j) I L = some (am_up (am_up I 48 j (am_bits (fun m => decide (g 11 m = 1)) (g 0 0))) 49 j (nI (g 0 4)), am_uL (am_uL L 46 j (lN (pkd 5 (g 9) (g 0 0)))) 47 j (lN (pkd 4 (g 10) (g 0 0)))) := by
  have gm := hg.1
  have p1 := fun L => pc_packS hg h n d L (g 0 0) 0 n (by omega) (by omega)
  have p2 := fun L => pc_packR hg h n d L (g 0 0) 0 n (by omega) (by omega)
  have q1 : ∀ L, fX7_packedSteps n d I L = some (lN (pkd 5 (g 9) (g 0 0)), I, L) := p1
  have q2 : ∀ L, fX7_packedRests n d I L = some (lN (pkd 4 (g 10) (g 0 0)), I, L) := p2
  obtain ⟨hm, hgv, hp, ha, hd, t0, t1, t2, t3, t4, t5, o0, o1, r0, r1, hde, hra, hs0, hs1⟩ := h
  simp (disch := omega) only [fX6_keep_road, zz_lt, li_0, li_1, li_2, li_3, li_4, li_5, li_6, li_7, li_8, li_9, li_10, li_11, li_12, li_15, li_16, li_20, li_21, li_24, li_25, li_26, li_32, li_33, li_38, li_40, li_41, li_42, li_43, li_45, li_47, li_48, li_57, li_58, li_59, li_60, li_61, li_62, li_63, li_74, li_75, li_84, li_91, li_93, li_98, li_100, li_103, li_105, li_107, li_109, li_110, li_111, li_112, li_115, li_118, li_119, li_120, li_121, li_124, li_140, li_180, li_206, li_240, li_255, li_420, li_520, li_999, li_1000, li_1771, li_8240, li_9999, li_88200, li_1000000, li_2097151, li_31, nI_add, pk_mul, zz_sub, zz_an, nI_clamp, zz_leT, zz_leF, zz_ltT, zz_ltF, zz_eqF, zz_eqT, zz_m1, zz_m2, zz_m3, zz_m4, zz_m5, zz_m6, zz_ck, zz_bl, zz_b3, zz_b2, zz_shl, zz_bt0, zz_bt1, pk_div, Nat.zero_add, Nat.add_zero, if_true, if_false, reduceIte, Nat.mul_zero, zz_or0, zz_inT, zz_inF, q1, q2, hde, hd, am_up_ne]
