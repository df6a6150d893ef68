/-! PURE: duels: the class's numbers. -/
def cde (v : Bool × Nat) (dd : Nat) : Int32 := Int32.ofInt (4 * rk v + (dd : Int))
def wv (v : Bool × Nat) : Int32 := Int32.ofInt (rk v)
def cdD (g : Nat → Nat → Nat) (x y a r b q : Nat) : Int32 := cde (DU g x y a r b q).1 (2 - (DU g x y a r b q).2)
theorem an_tt : ∀ k, k < 200 → ∀ dd, dd < 3 → (if cde (true, k) dd >>> ((2 : Int32) &&& 31) ≤ 0 then (-1 : Int32) - cde (true, k) dd >>> ((2 : Int32) &&& 31) else (1 : Int32) - cde (true, k) dd >>> ((2 : Int32) &&& 31)) = wv (false, k + 1) := by decide +kernel
theorem an_tf : ∀ k, k < 200 → ∀ dd, dd < 3 → (if cde (false, k) dd >>> ((2 : Int32) &&& 31) ≤ 0 then (-1 : Int32) - cde (false, k) dd >>> ((2 : Int32) &&& 31) else (1 : Int32) - cde (false, k) dd >>> ((2 : Int32) &&& 31)) = wv (true, k + 1) := by decide +kernel
theorem pc_answered (n d : Nat) (I : am_I) (L : am_L) {v : Bool × Nat} {dd : Nat} (hv : v.2 < 200) (hd : dd < 3) : fX0_answered n d (cde v dd) I L = some (wv (tnV v), I, L) := by
  obtain ⟨b, k⟩ := v
  have h : (if cde (b, k) dd >>> ((2 : Int32) &&& 31) ≤ 0 then (-1 : Int32) - cde (b, k) dd >>> ((2 : Int32) &&& 31) else (1 : Int32) - cde (b, k) dd >>> ((2 : Int32) &&& 31)) = wv (tnV (b, k)) := by
    cases b
    · exact an_tf k hv dd hd
    · exact an_tt k hv dd hd
  unfold fX0_answered
  rw [zz_lt]
  by_cases c : cde (b, k) dd >>> ((2 : Int32) &&& 31) ≤ 0
  · rw [if_pos c] at h ⊢; rw [h]
  · rw [if_neg c] at h ⊢; rw [h]
theorem m4_2t : ∀ k, k < 200 → nI 4 * wv (true, k) + nI 2 - nI 0 = cde (true, k) 2 := by decide +kernel
theorem m4_2f : ∀ k, k < 200 → nI 4 * wv (false, k) + nI 2 - nI 0 = cde (false, k) 2 := by decide +kernel
theorem m4_1t : ∀ k, k < 200 → nI 4 * wv (true, k) + nI 2 - nI 1 = cde (true, k) 1 := by decide +kernel
theorem m4_1f : ∀ k, k < 200 → nI 4 * wv (false, k) + nI 2 - nI 1 = cde (false, k) 1 := by decide +kernel
theorem m4_0t : ∀ k, k < 200 → nI 4 * wv (true, k) = cde (true, k) 0 := by decide +kernel
theorem m4_0f : ∀ k, k < 200 → nI 4 * wv (false, k) = cde (false, k) 0 := by decide +kernel
theorem m4_2 {v : Bool × Nat} (h : v.2 < 200) : nI 4 * wv v + nI 2 - nI 0 = cde v 2 := by
  obtain ⟨b, k⟩ := v
  cases b
  · exact m4_2f k h
  · exact m4_2t k h
theorem m4_1 {v : Bool × Nat} (h : v.2 < 200) : nI 4 * wv v + nI 2 - nI 1 = cde v 1 := by
  obtain ⟨b, k⟩ := v
  cases b
  · exact m4_1f k h
  · exact m4_1t k h
theorem m4_0 {v : Bool × Nat} (h : v.2 < 200) : nI 4 * wv v = cde v 0 := by
  obtain ⟨b, k⟩ := v
  cases b
  · exact m4_0f k h
  · exact m4_0t k h
theorem rk_b {v : Bool × Nat} (h : v.2 < 200) : -1000 ≤ rk v ∧ rk v ≤ 1000 := by
  unfold rk
  split <;> omega
theorem cde_t {v : Bool × Nat} {dd : Nat} (h : v.2 < 200) (hd : dd < 3) : (cde v dd).toInt = 4 * rk v + (dd : Int) := by
  have := rk_b h
  unfold cde
  exact oI_t (by omega)
theorem cmaxT (n d : Nat) (I : am_I) (L : am_L) {v w : Bool × Nat} {dv dw : Nat} (h : v.2 < 200) (h2 : w.2 < 200) (hv : dv < 3) (hw : dw < 3) (hl : 4 * rk v + (dv : Int) < 4 * rk w + (dw : Int)) : fJ9_max_7cf53 n d (cde v dv) (cde w dw) I L = some (cde w dw, I, L) := by
  unfold fJ9_max_7cf53
  rw [if_pos (Int32.lt_iff_toInt_lt.mpr (by rw [cde_t h hv, cde_t h2 hw]; exact hl))]
theorem cmaxF (n d : Nat) (I : am_I) (L : am_L) {v w : Bool × Nat} {dv dw : Nat} (h : v.2 < 200) (h2 : w.2 < 200) (hv : dv < 3) (hw : dw < 3) (hl : ¬ 4 * rk v + (dv : Int) < 4 * rk w + (dw : Int)) : fJ9_max_7cf53 n d (cde v dv) (cde w dw) I L = some (cde v dv, I, L) := by
  unfold fJ9_max_7cf53
  rw [if_neg (fun z => hl (by have := Int32.lt_iff_toInt_lt.mp z; rw [cde_t h hv, cde_t h2 hw] at this; exact this))]
theorem mx3 (n d : Nat) (I : am_I) (L : am_L) {v w u : Bool × Nat} (hv : v.2 < 200) (hw : w.2 < 200) (hu : u.2 < 200) : am_b3 (fJ9_max_7cf53 n d (cde w 1) (cde u 0) I L) (fun v2 I2 L2 => am_b3 (fJ9_max_7cf53 n d (cde v 2) v2 I2 L2) (fun v3 I3 L3 => am_lt v3 (fun v4 => some (v4, I3, L3)))) = some (cde (pk3 v w u).1 (2 - (pk3 v w u).2), I, L) := by
  unfold pk3 btr
  by_cases c1 : rk w < rk u
  · rw [cmaxT n d I L hw hu (by omega) (by omega) (by omega), zz_b3]
    by_cases c2 : rk v < rk u
    · rw [cmaxT n d I L hv hu (by omega) (by omega) (by omega), zz_b3, zz_lt]
      by_cases c3 : rk v < rk w
      · rw [if_pos (decide_eq_true c3), if_pos (decide_eq_true c1)]; rfl
      · rw [if_neg (by rw [decide_eq_true_eq]; exact c3), if_pos (decide_eq_true c2)]; rfl
    · rw [cmaxF n d I L hv hu (by omega) (by omega) (by omega), zz_b3, zz_lt, if_neg (by rw [decide_eq_true_eq]; omega), if_neg (by rw [decide_eq_true_eq]; exact c2)]; rfl
  · rw [cmaxF n d I L hw hu (by omega) (by omega) (by omega), zz_b3]
    by_cases c2 : rk v < rk w
    · rw [cmaxT n d I L hv hw (by omega) (by omega) (by omega), zz_b3, zz_lt, if_pos (decide_eq_true c2), if_neg (by rw [decide_eq_true_eq]; exact c1)]; rfl
    · rw [cmaxF n d I L hv hw (by omega) (by omega) (by omega), zz_b3, zz_lt, if_neg (by rw [decide_eq_true_eq]; exact c2), if_neg (by rw [decide_eq_true_eq]; omega)]; rfl
theorem gRest_0 {g : Nat → Nat → Nat} (hg : GW g) : gRest g 0 = 0 := gR_in (g 0 1) 0 (fun k _ h => by have := (hg.2.2.2.2.2.2.1 k (by omega)).1; omega)
theorem wv_l : (-nI 999 : Int32) = wv (false, 1) := by decide
theorem wv_w : (nI 999 : Int32) = wv (true, 1) := by decide
theorem DGo_2 (g : Nat → Nat → Nat) (x y a b q : Nat) : (DGo g x y a b q).2 < 200 := by
  unfold DGo
  split
  · show 1 < 200; omega
  · have := (DU_n g y x b q (a - 1) (gRest g (a - 1))).1
    show _ + 1 < 200; omega
theorem DSt_2 (g : Nat → Nat → Nat) (x y a r b q : Nat) : (DSt g x y a r b q).2 < 200 := by
  have := (DU_n g y x b q a (r - 1)).1
  show _ + 1 < 200; omega
theorem DPr_2 (g : Nat → Nat → Nat) (x y a r b : Nat) : (DPr g x y a r b).2 < 200 := by
  unfold DPr
  split
  · show 1 < 200; omega
  · have := (DU_n g y x (b - x) (gRest g (b - x)) a (r - 1)).1
    show _ + 1 < 200; omega
theorem an_D (n d : Nat) (I : am_I) (L : am_L) (g : Nat → Nat → Nat) (x y a r b q : Nat) : fX0_answered n d (cdD g x y a r b q) I L = some (wv (tnV (DU g x y a r b q).1), I, L) := by
  have := DU_n g x y a r b q
  exact pc_answered n d I L (by omega) (by omega)
def prs (g : Nat → Nat → Nat) (x b : Nat) : Nat := if b ≤ x then 0 else plc g (b - x) (gRest g (b - x))
theorem best_68 {g : Nat → Nat → Nat} (hg : GW g) (n d : Nat) (L : am_L) {I : am_I} {x y a r b q : Nat} (hx : 1 ≤ x) (hy : 1 ≤ y) (ha : 1 ≤ a ∧ a ≤ 20) (hr : r ≤ gRest g a) (hb : 1 ≤ b ∧ b ≤ 20) (hq : q ≤ gRest g b) (h55 : I 55 (plc g a r) = nI (lwS g a - 1)) (t1 : a ≠ 1 → I 68 (plc g b q * 75 + (lwS g a - 1)) = cdD g y x b q (a - 1) (gRest g (a - 1))) (t2 : r ≠ 0 → I 68 (plc g b q * 75 + plc g a r - 1) = cdD g y x b q a (r - 1)) (t3 : r ≠ 0 → ¬ b ≤ x → I 68 (prs g x b * 75 + plc g a r - 1) = cdD g y x (b - x) (gRest g (b - x)) a (r - 1)) : fX0_best_otherInTurn_t n d (nI (plc g a r)) (nI (plc g b q)) (nI (prs g x b)) I L = some (cdD g x y a r b q, I, L) := by
  have p1 := plc_le hg ha.2 hr
  have p2 := plc_le hg hb.2 hq
  have la := lwS_m g (a := 0) (b := a) (by omega)
  have lb := lwS_m g (a := 0) (b := b) (by omega)
  have pa : plc g a r = lwS g a + r := rfl
  have pb : plc g b q = lwS g b + q := rfl
  have p3 : prs g x b ≤ 74 := by
    unfold prs
    split
    · omega
    · exact plc_le hg (by omega) (Nat.le_refl _)
  have gn := DGo_2 g x y a b q
  have sn := DSt_2 g x y a r b q
  have pn := DPr_2 g x y a r b
  have mg := m4_2 gn
  have ms := m4_1 sn
  have mp := m4_0 pn
  have mm := mx3 n d I L gn sn pn
  have Ve := DU_eq hg hx hy ha hb hr hq
  have v : cdD g x y a r b q = if r = 0 then cde (DGo g x y a b q) 2 else cde (pk3 (DGo g x y a b q) (DSt g x y a r b q) (DPr g x y a r b)).1 (2 - (pk3 (DGo g x y a b q) (DSt g x y a r b q) (DPr g x y a r b)).2) := by
    unfold cdD
    rw [Ve]
    by_cases c : r = 0
    · rw [if_pos c, if_pos c]; rfl
    · rw [if_neg c, if_neg c]
  -- going
  have A : fX0_best_otherInTurn_t n d (nI (plc g a r)) (nI (plc g b q)) (nI (prs g x b)) I L = fX0_best_otherInTurn_t_b33 n d (nI 4) (wv (DGo g x y a b q)) (nI (plc g a r)) (nI (plc g b q)) (nI (prs g x b)) (nI (lwS g a - 1)) I L := by
    by_cases c : a = 1
    · have e : DGo g x y a b q = (false, 1) := by unfold DGo; rw [if_pos c]
      have z : lwS g a - 1 = 0 := by
        rw [c]
        show lwS g 0 + gRest g 0 + 1 - 1 = 0
        rw [gRest_0 hg]; rfl
      rw [z] at h55
      rw [e, z, ← wv_l]
      simp (disch := omega) only [fX0_best_otherInTurn_t, zz_lt, li_0, li_1, li_2, li_3, li_4, li_5, li_6, li_7, li_8, li_9, li_10, li_11, li_12, li_15, li_16, li_20, li_21, li_24, li_25, li_26, li_32, li_33, li_38, li_40, li_41, li_42, li_43, li_45, li_47, li_48, li_57, li_58, li_59, li_60, li_61, li_62, li_63, li_74, li_75, li_84, li_91, li_93, li_98, li_100, li_103, li_105, li_107, li_109, li_110, li_111, li_112, li_115, li_118, li_119, li_120, li_121, li_124, li_140, li_180, li_206, li_240, li_255, li_420, li_520, li_999, li_1000, li_1771, li_8240, li_9999, li_88200, li_1000000, li_2097151, li_31, nI_add, pk_mul, zz_sub, zz_an, nI_clamp, zz_leT, zz_leF, zz_ltT, zz_ltF, zz_eqF, zz_eqT, zz_m1, zz_m2, zz_m3, zz_m4, zz_m5, zz_m6, zz_ck, zz_bl, zz_b3, zz_b2, zz_shl, zz_bt0, zz_bt1, pk_div, Nat.zero_add, Nat.add_zero, if_true, if_false, reduceIte, Nat.mul_zero, zz_or0, zz_inT, zz_inF, h55]
    · have e : DGo g x y a b q = tnV (DU g y x b q (a - 1) (gRest g (a - 1))).1 := by unfold DGo; rw [if_neg c]
      have z : 1 ≤ lwS g a - 1 := by
        have := lwS_m g (a := 0) (b := a) (by omega)
        omega
      have t := t1 c
      have an := an_D n d I L g y x b q (a - 1) (gRest g (a - 1))
      rw [e]
      simp (disch := omega) only [fX0_best_otherInTurn_t, zz_lt, li_0, li_1, li_2, li_3, li_4, li_5, li_6, li_7, li_8, li_9, li_10, li_11, li_12, li_15, li_16, li_20, li_21, li_24, li_25, li_26, li_32, li_33, li_38, li_40, li_41, li_42, li_43, li_45, li_47, li_48, li_57, li_58, li_59, li_60, li_61, li_62, li_63, li_74, li_75, li_84, li_91, li_93, li_98, li_100, li_103, li_105, li_107, li_109, li_110, li_111, li_112, li_115, li_118, li_119, li_120, li_121, li_124, li_140, li_180, li_206, li_240, li_255, li_420, li_520, li_999, li_1000, li_1771, li_8240, li_9999, li_88200, li_1000000, li_2097151, li_31, nI_add, pk_mul, zz_sub, zz_an, nI_clamp, zz_leT, zz_leF, zz_ltT, zz_ltF, zz_eqF, zz_eqT, zz_m1, zz_m2, zz_m3, zz_m4, zz_m5, zz_m6, zz_ck, zz_bl, zz_b3, zz_b2, zz_shl, zz_bt0, zz_bt1, pk_div, Nat.zero_add, Nat.add_zero, if_true, if_false, reduceIte, Nat.mul_zero, zz_or0, zz_inT, zz_inF, h55, t, an]
  rw [A, v]
  by_cases c : r = 0
  · rw [if_pos c]
    simp (disch := omega) only [fX0_best_otherInTurn_t_b33, fX0_best_otherInTurn_t_b53, zz_lt, li_0, li_1, li_2, mg, zz_sub, zz_leT, if_true, reduceIte]
  · rw [if_neg c]
    have u2 := t2 c
    have an := an_D n d I L g y x b q a (r - 1)
    have es : tnV (DU g y x b q a (r - 1)).1 = DSt g x y a r b q := rfl
    rw [es] at an
    rw [← mm]
    by_cases c2 : b ≤ x
    · have ep : DPr g x y a r b = (true, 1) := by unfold DPr; rw [if_pos c2]
      have ez : prs g x b = 0 := by unfold prs; rw [if_pos c2]
      rw [ep, ← wv_w] at mp
      rw [ez]
      rw [ep]
      simp (disch := omega) only [fX0_best_otherInTurn_t_b33, fX0_best_otherInTurn_t_b53, fX0_best_otherInTurn_t_b100, zz_lt, li_0, li_1, li_2, li_4, li_75, li_999, mg, pk_mul, nI_add, zz_sub, zz_leF, zz_eqF, zz_eqT, if_true, if_false, reduceIte, zz_ck, nI_clamp, u2, an, zz_b3, ms, mp]
    · have ep : DPr g x y a r b = tnV (DU g y x (b - x) (gRest g (b - x)) a (r - 1)).1 := by unfold DPr; rw [if_neg c2]
      have ez : 1 ≤ prs g x b := by
        have := lwS_m g (a := 0) (b := b - x) (by omega)
        unfold prs plc; rw [if_neg c2]; omega
      have u3 := t3 c c2
      have an2 := an_D n d I L g y x (b - x) (gRest g (b - x)) a (r - 1)
      rw [← ep] at an2
      simp (disch := omega) only [fX0_best_otherInTurn_t_b33, fX0_best_otherInTurn_t_b53, fX0_best_otherInTurn_t_b100, zz_lt, li_0, li_1, li_2, li_4, li_75, li_999, mg, pk_mul, nI_add, zz_sub, zz_leF, zz_eqF, zz_eqT, if_true, if_false, reduceIte, zz_ck, nI_clamp, u2, an, u3, an2, zz_b3, ms, mp]
theorem best_67 {g : Nat → Nat → Nat} (hg : GW g) (n d : Nat) (L : am_L) {I : am_I} {x y a r b q : Nat} (hx : 1 ≤ x) (hy : 1 ≤ y) (ha : 1 ≤ a ∧ a ≤ 20) (hr : r ≤ gRest g a) (hb : 1 ≤ b ∧ b ≤ 20) (hq : q ≤ gRest g b) (h55 : I 55 (plc g a r) = nI (lwS g a - 1)) (t1 : a ≠ 1 → I 67 (plc g b q * 75 + (lwS g a - 1)) = cdD g y x b q (a - 1) (gRest g (a - 1))) (t2 : r ≠ 0 → I 67 (plc g b q * 75 + plc g a r - 1) = cdD g y x b q a (r - 1)) (t3 : r ≠ 0 → ¬ b ≤ x → I 67 (prs g x b * 75 + plc g a r - 1) = cdD g y x (b - x) (gRest g (b - x)) a (r - 1)) : fX0_best_firstInTurn_t n d (nI (plc g a r)) (nI (plc g b q)) (nI (prs g x b)) I L = some (cdD g x y a r b q, I, L) := by
  have p1 := plc_le hg ha.2 hr
  have p2 := plc_le hg hb.2 hq
  have la := lwS_m g (a := 0) (b := a) (by omega)
  have lb := lwS_m g (a := 0) (b := b) (by omega)
  have pa : plc g a r = lwS g a + r := rfl
  have pb : plc g b q = lwS g b + q := rfl
  have p3 : prs g x b ≤ 74 := by
    unfold prs
    split
    · omega
    · exact plc_le hg (by omega) (Nat.le_refl _)
  have gn := DGo_2 g x y a b q
  have sn := DSt_2 g x y a r b q
  have pn := DPr_2 g x y a r b
  have mg := m4_2 gn
  have ms := m4_1 sn
  have mp := m4_0 pn
  have mm := mx3 n d I L gn sn pn
  have Ve := DU_eq hg hx hy ha hb hr hq
  have v : cdD g x y a r b q = if r = 0 then cde (DGo g x y a b q) 2 else cde (pk3 (DGo g x y a b q) (DSt g x y a r b q) (DPr g x y a r b)).1 (2 - (pk3 (DGo g x y a b q) (DSt g x y a r b q) (DPr g x y a r b)).2) := by
    unfold cdD
    rw [Ve]
    by_cases c : r = 0
    · rw [if_pos c, if_pos c]; rfl
    · rw [if_neg c, if_neg c]
  -- going
  have A : fX0_best_firstInTurn_t n d (nI (plc g a r)) (nI (plc g b q)) (nI (prs g x b)) I L = fX0_best_firstInTurn_t_b33 n d (nI 4) (wv (DGo g x y a b q)) (nI (plc g a r)) (nI (plc g b q)) (nI (prs g x b)) (nI (lwS g a - 1)) I L := by
    by_cases c : a = 1
    · have e : DGo g x y a b q = (false, 1) := by unfold DGo; rw [if_pos c]
      have z : lwS g a - 1 = 0 := by
        rw [c]
        show lwS g 0 + gRest g 0 + 1 - 1 = 0
        rw [gRest_0 hg]; rfl
      rw [z] at h55
      rw [e, z, ← wv_l]
      simp (disch := omega) only [fX0_best_firstInTurn_t, zz_lt, li_0, li_1, li_2, li_3, li_4, li_5, li_6, li_7, li_8, li_9, li_10, li_11, li_12, li_15, li_16, li_20, li_21, li_24, li_25, li_26, li_32, li_33, li_38, li_40, li_41, li_42, li_43, li_45, li_47, li_48, li_57, li_58, li_59, li_60, li_61, li_62, li_63, li_74, li_75, li_84, li_91, li_93, li_98, li_100, li_103, li_105, li_107, li_109, li_110, li_111, li_112, li_115, li_118, li_119, li_120, li_121, li_124, li_140, li_180, li_206, li_240, li_255, li_420, li_520, li_999, li_1000, li_1771, li_8240, li_9999, li_88200, li_1000000, li_2097151, li_31, nI_add, pk_mul, zz_sub, zz_an, nI_clamp, zz_leT, zz_leF, zz_ltT, zz_ltF, zz_eqF, zz_eqT, zz_m1, zz_m2, zz_m3, zz_m4, zz_m5, zz_m6, zz_ck, zz_bl, zz_b3, zz_b2, zz_shl, zz_bt0, zz_bt1, pk_div, Nat.zero_add, Nat.add_zero, if_true, if_false, reduceIte, Nat.mul_zero, zz_or0, zz_inT, zz_inF, h55]
    · have e : DGo g x y a b q = tnV (DU g y x b q (a - 1) (gRest g (a - 1))).1 := by unfold DGo; rw [if_neg c]
      have z : 1 ≤ lwS g a - 1 := by
        have := lwS_m g (a := 0) (b := a) (by omega)
        omega
      have t := t1 c
      have an := an_D n d I L g y x b q (a - 1) (gRest g (a - 1))
      rw [e]
      simp (disch := omega) only [fX0_best_firstInTurn_t, zz_lt, li_0, li_1, li_2, li_3, li_4, li_5, li_6, li_7, li_8, li_9, li_10, li_11, li_12, li_15, li_16, li_20, li_21, li_24, li_25, li_26, li_32, li_33, li_38, li_40, li_41, li_42, li_43, li_45, li_47, li_48, li_57, li_58, li_59, li_60, li_61, li_62, li_63, li_74, li_75, li_84, li_91, li_93, li_98, li_100, li_103, li_105, li_107, li_109, li_110, li_111, li_112, li_115, li_118, li_119, li_120, li_121, li_124, li_140, li_180, li_206, li_240, li_255, li_420, li_520, li_999, li_1000, li_1771, li_8240, li_9999, li_88200, li_1000000, li_2097151, li_31, nI_add, pk_mul, zz_sub, zz_an, nI_clamp, zz_leT, zz_leF, zz_ltT, zz_ltF, zz_eqF, zz_eqT, zz_m1, zz_m2, zz_m3, zz_m4, zz_m5, zz_m6, zz_ck, zz_bl, zz_b3, zz_b2, zz_shl, zz_bt0, zz_bt1, pk_div, Nat.zero_add, Nat.add_zero, if_true, if_false, reduceIte, Nat.mul_zero, zz_or0, zz_inT, zz_inF, h55, t, an]
  rw [A, v]
  by_cases c : r = 0
  · rw [if_pos c]
    simp (disch := omega) only [fX0_best_firstInTurn_t_b33, fX0_best_firstInTurn_t_b53, zz_lt, li_0, li_1, li_2, mg, zz_sub, zz_leT, if_true, reduceIte]
  · rw [if_neg c]
    have u2 := t2 c
    have an := an_D n d I L g y x b q a (r - 1)
    have es : tnV (DU g y x b q a (r - 1)).1 = DSt g x y a r b q := rfl
    rw [es] at an
    rw [← mm]
    by_cases c2 : b ≤ x
    · have ep : DPr g x y a r b = (true, 1) := by unfold DPr; rw [if_pos c2]
      have ez : prs g x b = 0 := by unfold prs; rw [if_pos c2]
      rw [ep, ← wv_w] at mp
      rw [ez]
      rw [ep]
      simp (disch := omega) only [fX0_best_firstInTurn_t_b33, fX0_best_firstInTurn_t_b53, fX0_best_firstInTurn_t_b100, zz_lt, li_0, li_1, li_2, li_4, li_75, li_999, mg, pk_mul, nI_add, zz_sub, zz_leF, zz_eqF, zz_eqT, if_true, if_false, reduceIte, zz_ck, nI_clamp, u2, an, zz_b3, ms, mp]
    · have ep : DPr g x y a r b = tnV (DU g y x (b - x) (gRest g (b - x)) a (r - 1)).1 := by unfold DPr; rw [if_neg c2]
      have ez : 1 ≤ prs g x b := by
        have := lwS_m g (a := 0) (b := b - x) (by omega)
        unfold prs plc; rw [if_neg c2]; omega
      have u3 := t3 c c2
      have an2 := an_D n d I L g y x (b - x) (gRest g (b - x)) a (r - 1)
      rw [← ep] at an2
      simp (disch := omega) only [fX0_best_firstInTurn_t_b33, fX0_best_firstInTurn_t_b53, fX0_best_firstInTurn_t_b100, zz_lt, li_0, li_1, li_2, li_4, li_75, li_999, mg, pk_mul, nI_add, zz_sub, zz_leF, zz_eqF, zz_eqT, if_true, if_false, reduceIte, zz_ck, nI_clamp, u2, an, u3, an2, zz_b3, ms, mp]
