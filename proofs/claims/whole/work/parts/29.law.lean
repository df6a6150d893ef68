/-! PURE: looking who is home; law. -/
def sb (x : Int32) (m : Nat) (b : Bool) : Int32 := if b = true then x ||| nI (2 ^ m) else x &&& (nI (2 ^ m) ^^^ -nI 1)
theorem bt_sb (x : Int32) (b : Bool) {m i : Nat} (hm : m < 32) (hi : i < 32) : bt (sb x m b) i = if i = m then b else bt x i := by
  unfold sb
  cases b
  · rw [if_neg (by decide), b_and, b_xor, bt_m1 i hi, bt_pow m hm i hi]
    by_cases e : i = m <;> simp [e]
  · rw [if_pos rfl, b_or, bt_pow m hm i hi]
    by_cases e : i = m <;> simp [e]
theorem sH6 : scH 39 6 = true := rfl
theorem pc_look {g : Nat → Nat → Nat} {W : Nat → (Nat → Nat) → Int32} {q : Nat → Nat} (hg : GW g) (hl : GL q) (n d : Nat) (hn : 2000 < n) {I : am_I} (h : CS I g) (hL : CL I W q) (L : am_L) {m : Nat} (h2 : m < g 0 0) : ∃ I', fX7_lookAt n d (nI m) I L = some (I', L) ∧ am_ag scH I I' ∧ I' 39 6 = sb (I 39 6) m (gh W g (q 1) m) := by
  have h0 := h
  obtain ⟨hm, hgv, hp, ha, hd, t0, t1, t2, t3, t4, t5, o0, o1, r0, r1, hde, hra, hs0, hs1⟩ := h
  have b1 := hg.1
  have b2 := hg.2.2.2.2.2.2.2.2.1 m h2
  have b3 := hl.1
  have hh := hL.2.1
  rcases hq : q 1 with _ | l
  · rw [hq, en_0] at hh
    refine ⟨am_up I 39 6 (sb (I 39 6) m (gh W g 0 m)), ?_, ag_up ag_rf sH6, up_s rfl⟩
    by_cases c : g 9 m = 0 <;> simp (disch := omega) only [fX7_lookAt, fX7_lookAt_b40, fX7_lookAt_b67, am_lt, li_0, li_1, li_2, li_3, li_4, li_5, li_6, li_7, li_8, li_9, li_10, li_11, li_12, li_15, li_16, li_20, li_21, li_24, li_25, li_26, li_32, li_33, li_38, li_40, li_41, li_42, li_43, li_45, li_47, li_48, li_57, li_58, li_59, li_60, li_61, li_62, li_63, li_74, li_75, li_84, li_91, li_93, li_98, li_100, li_103, li_105, li_107, li_109, li_110, li_111, li_112, li_115, li_118, li_119, li_120, li_121, li_124, li_140, li_180, li_206, li_240, li_255, li_420, li_520, li_999, li_1000, li_1771, li_8240, li_9999, li_88200, li_1000000, li_2097151, li_31, nI_add, pk_mul, zz_sub, zz_an, nI_clamp, zz_leT, zz_leF, zz_ltT, zz_ltF, zz_eqF, zz_eqT, zz_m1, zz_m2, zz_m3, zz_m4, zz_m5, zz_m6, zz_ck, zz_bl, zz_b3, zz_b2, zz_shl, zz_bt0, zz_bt1, pk_div, Nat.zero_add, Nat.add_zero, if_true, if_false, reduceIte, Nat.mul_zero, zz_or0, zz_inT, zz_inF, hm, hgv, hp, ha, hd, t0, t1, t2, t3, t4, t5, o0, o1, r0, r1, hh, gh, sb, c, if_true, decide_true, decide_false, Bool.false_eq_true]
  · rw [hq, en_s] at hh
    have := hl.2
    obtain ⟨I1, w1, w2⟩ := pc_by hg hl n d hn h0 hL L h2 (l := l) (by omega)
    have e6 := w2 39 6 rfl
    refine ⟨am_up I1 39 6 (sb (I 39 6) m (gh W g (l + 1) m)), ?_, ag_up (ag_H w2) sH6, up_s rfl⟩
    cases c : gh W g (l + 1) m <;> (rw [c] at w1; simp (disch := omega) only [fX7_lookAt, fX7_lookAt_b40, fX7_lookAt_b67, am_lt, li_0, li_1, li_2, li_3, li_4, li_5, li_6, li_7, li_8, li_9, li_10, li_11, li_12, li_15, li_16, li_20, li_21, li_24, li_25, li_26, li_32, li_33, li_38, li_40, li_41, li_42, li_43, li_45, li_47, li_48, li_57, li_58, li_59, li_60, li_61, li_62, li_63, li_74, li_75, li_84, li_91, li_93, li_98, li_100, li_103, li_105, li_107, li_109, li_110, li_111, li_112, li_115, li_118, li_119, li_120, li_121, li_124, li_140, li_180, li_206, li_240, li_255, li_420, li_520, li_999, li_1000, li_1771, li_8240, li_9999, li_88200, li_1000000, li_2097151, li_31, nI_add, pk_mul, zz_sub, zz_an, nI_clamp, zz_leT, zz_leF, zz_ltT, zz_ltF, zz_eqF, zz_eqT, zz_m1, zz_m2, zz_m3, zz_m4, zz_m5, zz_m6, zz_ck, zz_bl, zz_b3, zz_b2, zz_shl, zz_bt0, zz_bt1, pk_div, Nat.zero_add, Nat.add_zero, if_true, if_false, reduceIte, Nat.mul_zero, zz_or0, zz_inT, zz_inF, hm, hgv, hp, ha, hd, t0, t1, t2, t3, t4, t5, o0, o1, r0, r1, hh, w1, e6, sb, c, if_true, Bool.toNat_true, Bool.toNat_false, Bool.false_eq_true])
theorem pc_lookL {g : Nat → Nat → Nat} {W : Nat → (Nat → Nat) → Int32} {q : Nat → Nat} (hg : GW g) (hl : GL q) (n d : Nat) (hn : 2000 < n) : ∀ (j i F : Nat) (I : am_I) (L : am_L), i + j = g 0 0 → j < F → CS I g → CL I W q → (∀ k, k < i → bt (I 39 6) k = gh W g (q 1) k) → (∀ k, g 0 0 ≤ k → k < 32 → bt (I 39 6) k = false) → ∃ I', fX7_lookAtAll_b2 n d F (nI i) I L = some (I', L) ∧ am_ag scH I I' ∧ CH I' W q g
  | _, _, 0, _, _, _, f, _, _, _, _ => by omega
  | 0, i, F + 1, I, L, e, f, h, hL, h1, h2 => by
    have h0 := h; have hg2 := hg; obtain ⟨hm, hgv, hp, ha, hd, t0, t1, t2, t3, t4, t5, o0, o1, r0, r1, hde, hra, hs0, hs1⟩ := h; obtain ⟨gm, gg, gp, ga, gd, gmn, gor, gdi, grd, gsd⟩ := hg
    have e1 : i = g 0 0 := by omega
    subst e1
    refine ⟨I, by simp (disch := omega) only [fX7_lookAtAll_b2, fX7_lookAtAll_b2w, am_lt, li_0, li_1, li_2, li_3, li_4, li_5, li_6, li_7, li_8, li_9, li_10, li_11, li_12, li_15, li_16, li_20, li_21, li_24, li_25, li_26, li_32, li_33, li_38, li_40, li_41, li_42, li_43, li_45, li_47, li_48, li_57, li_58, li_59, li_60, li_61, li_62, li_63, li_74, li_75, li_84, li_91, li_93, li_98, li_100, li_103, li_105, li_107, li_109, li_110, li_111, li_112, li_115, li_118, li_119, li_120, li_121, li_124, li_140, li_180, li_206, li_240, li_255, li_420, li_520, li_999, li_1000, li_1771, li_8240, li_9999, li_88200, li_1000000, li_2097151, li_31, nI_add, pk_mul, zz_sub, zz_an, nI_clamp, zz_leT, zz_leF, zz_ltT, zz_ltF, zz_eqF, zz_eqT, zz_m1, zz_m2, zz_m3, zz_m4, zz_m5, zz_m6, zz_ck, zz_bl, zz_b3, zz_b2, zz_shl, zz_bt0, zz_bt1, pk_div, Nat.zero_add, Nat.add_zero, if_true, if_false, reduceIte, Nat.mul_zero, zz_or0, zz_inT, zz_inF, hm, hgv, hp, ha, hd, t0, t1, t2, t3, t4, t5, o0, o1, r0, r1], ag_rf, ?_⟩
    apply b_ext
    intro k hk
    rw [bt_bits _ _ (by omega) _ hk]
    by_cases z : k < g 0 0
    · rw [h1 k z]; simp [z]
    · rw [h2 k (by omega) hk]; simp [z]
  | j + 1, i, F + 1, I, L, e, f, h, hL, h1, h2 => by
    have h0 := h; have hg2 := hg; obtain ⟨hm, hgv, hp, ha, hd, t0, t1, t2, t3, t4, t5, o0, o1, r0, r1, hde, hra, hs0, hs1⟩ := h; obtain ⟨gm, gg, gp, ga, gd, gmn, gor, gdi, grd, gsd⟩ := hg
    obtain ⟨I1, w1, w2, w3⟩ := pc_look hg2 hl n d hn h0 hL L (m := i) (by omega)
    obtain ⟨I2, w4, w5, w6⟩ := pc_lookL hg2 hl n d hn j (i + 1) F I1 L (by omega) (by omega) (CS_keepH h0 w2) (CL_keep hl hL w2) (fun k hk => by
      rw [w3, bt_sb _ _ (by omega) (by omega)]
      by_cases z : k = i
      · rw [if_pos z, z]
      · rw [if_neg z]; exact h1 k (by omega)) (fun k hk hk2 => by
      rw [w3, bt_sb _ _ (by omega) hk2, if_neg (by omega)]
      exact h2 k hk hk2)
    refine ⟨I2, ?_, ag_tr w2 w5, w6⟩
    rw [← w4]
    simp (disch := omega) only [fX7_lookAtAll_b2, fX7_lookAtAll_b2w, am_lt, li_0, li_1, li_2, li_3, li_4, li_5, li_6, li_7, li_8, li_9, li_10, li_11, li_12, li_15, li_16, li_20, li_21, li_24, li_25, li_26, li_32, li_33, li_38, li_40, li_41, li_42, li_43, li_45, li_47, li_48, li_57, li_58, li_59, li_60, li_61, li_62, li_63, li_74, li_75, li_84, li_91, li_93, li_98, li_100, li_103, li_105, li_107, li_109, li_110, li_111, li_112, li_115, li_118, li_119, li_120, li_121, li_124, li_140, li_180, li_206, li_240, li_255, li_420, li_520, li_999, li_1000, li_1771, li_8240, li_9999, li_88200, li_1000000, li_2097151, li_31, nI_add, pk_mul, zz_sub, zz_an, nI_clamp, zz_leT, zz_leF, zz_ltT, zz_ltF, zz_eqF, zz_eqT, zz_m1, zz_m2, zz_m3, zz_m4, zz_m5, zz_m6, zz_ck, zz_bl, zz_b3, zz_b2, zz_shl, zz_bt0, zz_bt1, pk_div, Nat.zero_add, Nat.add_zero, if_true, if_false, reduceIte, Nat.mul_zero, zz_or0, zz_inT, zz_inF, hm, hgv, hp, ha, hd, t0, t1, t2, t3, t4, t5, o0, o1, r0, r1, w1]
theorem pc_lookAll {g : Nat → Nat → Nat} {W : Nat → (Nat → Nat) → Int32} {q : Nat → Nat} (hg : GW g) (hl : GL q) (n d : Nat) (hn : 2000 < n) {I : am_I} (h : CS I g) (hL : CL I W q) (L : am_L) (h2 : ∀ k, g 0 0 ≤ k → k < 32 → bt (I 39 6) k = false) : ∃ I', fX7_lookAtAll n d I L = some (I', L) ∧ am_ag scH I I' ∧ CH I' W q g := by
  have b := hg.1
  exact pc_lookL hg hl n d hn (g 0 0) 0 n I L (by omega) (by omega) h hL (fun k hk => by omega) h2
theorem CH_hi {W : Nat → (Nat → Nat) → Int32} {g : Nat → Nat → Nat} {q : Nat → Nat} {I : am_I} (hg : GW g) (h : CH I W q g) : ∀ k, g 0 0 ≤ k → k < 32 → bt (I 39 6) k = false := by
  intro k hk hk2
  have b := hg.1
  rw [show I 39 6 = am_bits (gh W g (q 1)) (g 0 0) from h, bt_bits _ _ (by omega) _ hk2]
  simp
  omega
def sLw (k j : Nat) : Bool := scH k j || (k == 29 && j == 6)
def sLwM (k j : Nat) : Bool := k == 0 && j == 28
theorem ag_Lw {I I' : am_I} (a : am_ag scH I I') : am_ag sLw I I' := ag_wk a (fun k j h => by
  unfold sLw at h
  cases e : scH k j
  · rfl
  · rw [e] at h; simp at h)
def qu (q : Nat → Nat) (l : Nat) : Nat → Nat := fun i => if i = 1 then l else q i
theorem law_set {g : Nat → Nat → Nat} {W : Nat → (Nat → Nat) → Int32} {q : Nat → Nat} {IC IM : am_I} (hg : GW g) (hl : GL q) (hc : CS IC g) (hL : CL IC W q) (hH : CH IC W q g) (h : MS IM g) (hM : ML IM W q) (LC LM : am_L) {l : Nat} (h3 : l ≤ q 0) : ∃ IC', fX11_law_b18 am_N 1900 (zn l) IC LC = some (nI 1, IC', LC) ∧ GL (qu q l) ∧ CS IC' g ∧ CL IC' W (qu q l) ∧ CH IC' W (qu q l) g ∧ MS (am_up IM 0 28 (zn l)) g ∧ ML (am_up IM 0 28 (zn l)) W (qu q l) ∧ am_ag sLw IC IC' ∧ am_ag sLwM IM (am_up IM 0 28 (zn l)) := by
  have hl' : GL (qu q l) := ⟨hl.1, h3⟩
  have c1 : CS (am_up IC 29 6 (zn l)) g := by
    unfold CS at *
    simp (disch := omega) only [am_up_ne]
    exact hc
  have c2 : CL (am_up IC 29 6 (zn l)) W (qu q l) := ⟨by rw [up_n (by omega)]; exact hL.1, up_s rfl, fun k hk => CLaw_of (hL.2.2 k hk) (fun j => by have := hl.1; have hk' : k < q 0 := hk; rw [am_up_ne (by omega)]) (by rw [am_up_ne (by omega)])⟩
  obtain ⟨I1, w1, w2, w3⟩ := pc_lookAll hg hl' am_N 1900 am_N2 c1 c2 LC (by rw [am_up_ne (by omega)]; exact CH_hi hg hH)
  refine ⟨I1, ?_, hl', CS_keepH c1 w2, CL_keep hl' c2 w2, w3, ?_, ?_, ag_tr (ag_up ag_rf rfl) (ag_Lw w2), ag_up ag_rf rfl⟩
  · simp (disch := omega) only [fX11_law_b18, w1, am_lt, li_0, li_1, li_2, li_3, li_4, li_5, li_6, li_7, li_8, li_9, li_10, li_11, li_12, li_15, li_16, li_20, li_21, li_24, li_25, li_26, li_32, li_33, li_38, li_40, li_41, li_42, li_43, li_45, li_47, li_48, li_57, li_58, li_59, li_60, li_61, li_62, li_63, li_74, li_75, li_84, li_91, li_93, li_98, li_100, li_103, li_105, li_107, li_109, li_110, li_111, li_112, li_115, li_118, li_119, li_120, li_121, li_124, li_140, li_180, li_206, li_240, li_255, li_420, li_520, li_999, li_1000, li_1771, li_8240, li_9999, li_88200, li_1000000, li_2097151, li_31, nI_add, pk_mul, zz_sub, zz_an, nI_clamp, zz_leT, zz_leF, zz_ltT, zz_ltF, zz_eqF, zz_eqT, zz_m1, zz_m2, zz_m3, zz_m4, zz_m5, zz_m6, zz_ck, zz_bl, zz_b3, zz_b2, zz_shl, zz_bt0, zz_bt1, pk_div, Nat.zero_add, Nat.add_zero, if_true, if_false, reduceIte, Nat.mul_zero, zz_or0, zz_inT, zz_inF]
  · unfold MS at *
    simp (disch := omega) only [am_up_ne, up_n]
    exact h
  · exact ⟨by rw [up_n (by omega)]; exact hM.1, up_s rfl, fun k hk => MLaw_of (hM.2.2 k hk) (fun a j c => by rw [am_up_ne (by rintro rfl; simp [cdM] at c)])⟩
theorem op_law {g : Nat → Nat → Nat} {W : Nat → (Nat → Nat) → Int32} {q : Nat → Nat} {IC IM : am_I} (hg : GW g) (hl : GL q) (hc : CS IC g) (hL : CL IC W q) (hH : CH IC W q g) (h : MS IM g) (hM : ML IM W q) (LC LM : am_L) (e : Int32) : ∃ r IC' IM' q', fX11_law am_N 1900 e IC LC = some (r, IC', LC) ∧ fX12_law am_N 1900 e IM LM = some (r, IM', LM) ∧ GL q' ∧ CS IC' g ∧ CL IC' W q' ∧ CH IC' W q' g ∧ MS IM' g ∧ ML IM' W q' ∧ am_ag sLw IC IC' ∧ am_ag sLwM IM IM' := by
  have b := hl.1
  by_cases c : e = -nI 1
  · obtain ⟨I1, w1, w2⟩ := law_set hg hl hc hL hH h hM LC LM (l := 0) (by omega)
    refine ⟨nI 1, I1, _, qu q 0, ?_, ?_, w2⟩
    · rw [← w1]
      unfold fX11_law
      rw [if_pos (by rw [c]; rfl), c, en_0]
    · unfold fX12_law
      rw [hM.1, li_1, pm_in, if_neg (by
        intro z
        rcases z with z | z
        · rw [c] at z; revert z; decide
        · have := Int32.lt_iff_toInt_lt.mp z
          rw [sub1_toInt (by omega), c, zz_ng (by omega)] at this
          omega)]
      rw [c]
      rfl
  · have c' : ¬ e = (-1 : Int32) := c
    rcases ix_of e (n := q 0) (by omega) with he | ⟨l, hj, rfl⟩
    · refine ⟨nI 0, IC, IM, q, ?_, ?_, hl, hc, hL, hH, h, hM, ag_rf, ag_rf⟩
      · unfold fX11_law
        rw [if_neg c', pc_has0 am_N 1900 hL LC he]
        rfl
      · unfold fX12_law
        rw [hM.1, li_1, pm_in, if_pos (by
          rcases he with z | z
          · left
            have z1 := Int32.lt_iff_toInt_lt.mp z
            rw [nI_toInt (by omega)] at z1
            refine Int32.lt_iff_toInt_lt.mpr ?_
            rw [zz_ng (by omega)]
            have z2 : e.toInt ≠ (-nI 1).toInt := fun w => c (Int32.toInt_inj.mp w)
            rw [zz_ng (by omega)] at z2
            omega
          · right
            have z1 := Int32.le_iff_toInt_le.mp z
            rw [nI_toInt (by omega)] at z1
            refine Int32.lt_iff_toInt_lt.mpr ?_
            rw [sub1_toInt (by omega)]
            omega)]
        rfl
    · obtain ⟨I1, w1, w2⟩ := law_set hg hl hc hL hH h hM LC LM (l := l + 1) (by omega)
      refine ⟨nI 1, I1, _, qu q (l + 1), ?_, ?_, w2⟩
      · rw [← w1]
        unfold fX11_law
        rw [if_neg c', pc_has1 hl am_N 1900 hL LC hj]
        rfl
      · unfold fX12_law
        rw [hM.1, li_1, pm_in, if_neg (by
          intro z
          rcases z with z | z
          · rw [zz_m4 (by omega)] at z; exact z
          · have := Int32.lt_iff_toInt_lt.mp z
            rw [sub1_toInt (by omega), nI_toInt (by omega)] at this
            omega)]
        rfl
