/-! MAN on both sides -/
theorem sw_n {β : Type} {k j : Nat} {lo : Int} (hk : k < 2147483648) (h : (k : Int) - lo = (j : Int)) {As : List (Option β)} {Z K : Option β} (hK : As[j]? = some K) : am_sw (nI k) lo As Z = K := by
  unfold am_sw
  rw [nI_toInt (by omega), if_neg (by omega), show ((k : Int) - lo).toNat = j by omega, hK]
theorem sw_l {β : Type} {k : Nat} {lo : Int} (hk : k < 2147483648) (h : (k : Int) < lo) {As : List (Option β)} {Z : Option β} : am_sw (nI k) lo As Z = Z := by
  unfold am_sw
  rw [nI_toInt (by omega), if_pos h]
theorem ck_n {β : Type} {m n : Nat} (hn : n < 2147483648) (h : m < n) {K : Option β} : am_ck (nI m) n K = K := by
  unfold am_ck
  rw [if_pos (by rw [nI_toInt (by omega)]; omega)]
def pe_man (Rl : am_Rl) : Prop := ∀ (al : Bool) (IC : am_I) (LC : am_L) (IM : am_I) (LM : am_L) (e0 e1 : Int32), Rl al IC LC IM LM → ∃ (IM' : am_I) (w : Int32), fX12_man am_N 1900 e0 e1 IM LM = some (w, IM', LM) ∧ Rl al IC LC IM' LM ∧ ((IM' 0 0 = 0 ∧ ∀ L, fX11_man am_N 1900 e0 e1 IC L = some (w, IC, L)) ∨ (IM' 0 0 = 1 ∧ ∃ v, (∀ L, fX9_hasMan_war am_N 1900 e0 IC L = some (v, IC, L)) ∧ (v = 0 ∨ (¬ v = 0 ∧ (e1.toInt < 0 ∨ 9 ≤ e1.toInt)))))
theorem mm_b23 (e0 e1 : Int32) (IM : am_I) (LM : am_L) : fX12_man_b23 am_N 1900 e0 e1 IM LM = some (0, am_up IM 0 0 1, LM) := by
  unfold fX12_man_b23 fX12_man_b24
  simp only [zz_lt]
  rw [if_pos (up_s rfl)]
theorem n1_0 : ¬ nI 1 = (0 : Int32) := by decide
theorem e8_9 : (8 : Int32) = nI 9 - nI 1 := by decide
theorem mm_in {g : Nat → Nat → Nat} {IM : am_I} (hg : GW g) (h : MS IM g) (LM : am_L) {m k : Nat} (hm : m < g 0 0) (hk : k < 9) : fX12_man am_N 1900 (nI m) (nI k) IM LM = fX12_man_b24 am_N 1900 0 (nI m) (nI k) IM LM := by
  have hin : fX12_in am_N 1900 (nI k) 0 8 IM LM = some (nI 1, IM, LM) := by rw [e8_9]; exact pm_in1 am_N 1900 IM LM hk (by omega)
  unfold fX12_man
  rw [pm_man1 hg h am_N 1900 LM hm]
  simp only [zz_b3]
  rw [if_neg n1_0, hin]
  simp only [zz_b3]
  rw [if_neg n1_0]
theorem d_man : pe_man ReL := by
  intro al IC LC IM LM e0 e1 h
  obtain ⟨n, c, W, q, g, a, K, kw, l, b, s, w, e, x, hT, hD, ⟨i1, i2, i3⟩, ⟨x1, x2, x3⟩, so, hR, hA⟩ := id h
  obtain ⟨h1, hl, h3, h4, h5, h6, h7, h8, h9, h10⟩ := id hD
  have gm := h1.1
  rcases ix_of e0 (n := g 0 0) (by omega) with he | ⟨m, hm, rfl⟩
  · refine ⟨am_up IM 0 0 1, 0, ?_, R_scr h ag_rf (ag_up ag_rf rfl), Or.inr ⟨up_s rfl, nI 0, fun L => pc_man0 h1 h3 am_N 1900 L he, Or.inl rfl⟩⟩
    unfold fX12_man
    rw [pm_man0 h1 h6 am_N 1900 LM he]
    simp only [zz_b3]
    rw [if_pos (show nI 0 = (0 : Int32) from rfl)]
    exact mm_b23 _ _ _ _
  · rcases ix_of e1 (n := 9) (by omega) with he | ⟨k, hk, rfl⟩
    · refine ⟨am_up IM 0 0 1, 0, ?_, R_scr h ag_rf (ag_up ag_rf rfl), Or.inr ⟨up_s rfl, nI 1, fun L => pc_man1 h1 h3 am_N 1900 L hm, Or.inr ⟨n1_0, ?_⟩⟩⟩
      · have hin : fX12_in am_N 1900 e1 0 8 IM LM = some (nI 0, IM, LM) := by rw [e8_9]; exact pm_in0 am_N 1900 IM LM he (by omega)
        unfold fX12_man
        rw [pm_man1 h1 h6 am_N 1900 LM hm]
        simp only [zz_b3]
        rw [if_neg n1_0, hin]
        simp only [zz_b3]
        rw [if_pos (show nI 0 = (0 : Int32) from rfl)]
        exact mm_b23 _ _ _ _
      · rcases he with he | he
        · left
          have := Int32.lt_iff_toInt_lt.mp he
          rw [nI_toInt (by omega)] at this
          omega
        · right
          have := Int32.le_iff_toInt_le.mp he
          rw [nI_toInt (by omega)] at this
          omega
    · have hs : ReL al IC LC (am_up IM 0 0 0) LM := R_scr h ag_rf (ag_up ag_rf rfl)
      have z0 : (am_up IM 0 0 0) 0 0 = 0 := up_s rfl
      have n01 : ¬ (am_up IM 0 0 0) 0 0 = (1 : Int32) := by rw [z0]; decide
      obtain ⟨cm, cgv, cp, ca, cd, u0, u1, u2, u3, u4, u5, v0, v1, s0, s1, cde, cra, cs0, cs1⟩ := id h3
      obtain ⟨mm, mgv, mp, ma, md, t0, t1, t2, t3, t4, t5, o0, o1, r0, r1, r2⟩ := id h6
      have bm := h1.2.2.2.2.2.2.2.2.1 m hm
      have e16 : (16 : Int32) = nI 16 := rfl
      have e08 : (8 : Int32) = nI 8 := rfl
      have e06 : (6 : Int32) = nI 6 := rfl
      have e00 : (0 : Int32) = nI 0 := rfl
      match k, hk with
      | 0, hk =>
        refine ⟨am_up IM 0 0 0, nI (g 1 m), ?_, hs, Or.inl ⟨z0, fun L => ?_⟩⟩
        · rw [mm_in h1 h6 LM hm (by omega)]
          unfold fX12_man_b24
          simp only [zz_lt]
          rw [if_neg n01, sw_l (k := 0) (by omega) (by omega)]
          rw [show (6 : Int32) * nI m + nI 0 = nI (6 * m + 0) from by rw [e06, pk_mul, nI_add], ck_n (by omega) (by omega)]
          show some ((am_up IM 0 0 0) 14 (nI (6 * m + 0)).toNatClampNeg, am_up IM 0 0 0, LM) = _
          rw [nI_clamp (by omega), am_up_ne (by omega)]
          have := t0 m hm
          rw [Nat.add_zero, this]
        · unfold fX11_man
          rw [pc_man1 h1 h3 am_N 1900 L hm]
          simp only [zz_b3, zz_lt]
          rw [if_neg n1_0, sw_n (k := 0) (j := 0) (by omega) (by omega) rfl]
          rw [ck_n (by omega) (by omega)]
          show some (IC 4 (nI m).toNatClampNeg, IC, L) = _
          rw [nI_clamp (by omega), u0 m hm]
      | 1, hk =>
        refine ⟨am_up IM 0 0 0, nI (g 9 m), ?_, hs, Or.inl ⟨z0, fun L => ?_⟩⟩
        · rw [mm_in h1 h6 LM hm (by omega)]
          unfold fX12_man_b24
          simp only [zz_lt]
          rw [if_neg n01, sw_n (k := 1) (j := 0) (by omega) (by omega) rfl]
          rw [show (0 : Int32) + nI m = nI (0 + m) from by rw [e00, nI_add], ck_n (by omega) (by omega)]
          show some ((am_up IM 0 0 0) 17 (nI (0 + m)).toNatClampNeg, am_up IM 0 0 0, LM) = _
          rw [nI_clamp (by omega), am_up_ne (by omega)]
          have := r0 m hm
          rw [Nat.zero_add, this]
        · unfold fX11_man
          rw [pc_man1 h1 h3 am_N 1900 L hm]
          simp only [zz_b3, zz_lt]
          rw [if_neg n1_0, sw_n (k := 1) (j := 1) (by omega) (by omega) rfl]
          rw [ck_n (by omega) (by omega)]
          show some (IC 40 (nI m).toNatClampNeg, IC, L) = _
          rw [nI_clamp (by omega), s0 m hm]
      | 2, hk =>
        refine ⟨am_up IM 0 0 0, nI (g 3 m), ?_, hs, Or.inl ⟨z0, fun L => ?_⟩⟩
        · rw [mm_in h1 h6 LM hm (by omega)]
          unfold fX12_man_b24
          simp only [zz_lt]
          rw [if_neg n01, sw_n (k := 2) (j := 1) (by omega) (by omega) rfl]
          rw [show (6 : Int32) * nI m + nI 2 = nI (6 * m + 2) from by rw [e06, pk_mul, nI_add], ck_n (by omega) (by omega)]
          show some ((am_up IM 0 0 0) 14 (nI (6 * m + 2)).toNatClampNeg, am_up IM 0 0 0, LM) = _
          rw [nI_clamp (by omega), am_up_ne (by omega)]
          have := t2 m hm
          rw [this]
        · unfold fX11_man
          rw [pc_man1 h1 h3 am_N 1900 L hm]
          simp only [zz_b3, zz_lt]
          rw [if_neg n1_0, sw_n (k := 2) (j := 2) (by omega) (by omega) rfl]
          rw [ck_n (by omega) (by omega)]
          show some (IC 6 (nI m).toNatClampNeg, IC, L) = _
          rw [nI_clamp (by omega), u2 m hm]
      | 3, hk =>
        refine ⟨am_up IM 0 0 0, nI (g 4 m), ?_, hs, Or.inl ⟨z0, fun L => ?_⟩⟩
        · rw [mm_in h1 h6 LM hm (by omega)]
          unfold fX12_man_b24
          simp only [zz_lt]
          rw [if_neg n01, sw_n (k := 3) (j := 2) (by omega) (by omega) rfl]
          rw [show (6 : Int32) * nI m + nI 3 = nI (6 * m + 3) from by rw [e06, pk_mul, nI_add], ck_n (by omega) (by omega)]
          show some ((am_up IM 0 0 0) 14 (nI (6 * m + 3)).toNatClampNeg, am_up IM 0 0 0, LM) = _
          rw [nI_clamp (by omega), am_up_ne (by omega)]
          have := t3 m hm
          rw [this]
        · unfold fX11_man
          rw [pc_man1 h1 h3 am_N 1900 L hm]
          simp only [zz_b3, zz_lt]
          rw [if_neg n1_0, sw_n (k := 3) (j := 3) (by omega) (by omega) rfl]
          rw [ck_n (by omega) (by omega)]
          show some (IC 7 (nI m).toNatClampNeg, IC, L) = _
          rw [nI_clamp (by omega), u3 m hm]
      | 4, hk =>
        refine ⟨am_up IM 0 0 0, nI (g 5 m), ?_, hs, Or.inl ⟨z0, fun L => ?_⟩⟩
        · rw [mm_in h1 h6 LM hm (by omega)]
          unfold fX12_man_b24
          simp only [zz_lt]
          rw [if_neg n01, sw_n (k := 4) (j := 3) (by omega) (by omega) rfl]
          rw [show (6 : Int32) * nI m + nI 4 = nI (6 * m + 4) from by rw [e06, pk_mul, nI_add], ck_n (by omega) (by omega)]
          show some ((am_up IM 0 0 0) 14 (nI (6 * m + 4)).toNatClampNeg, am_up IM 0 0 0, LM) = _
          rw [nI_clamp (by omega), am_up_ne (by omega)]
          have := t4 m hm
          rw [this]
        · unfold fX11_man
          rw [pc_man1 h1 h3 am_N 1900 L hm]
          simp only [zz_b3, zz_lt]
          rw [if_neg n1_0, sw_n (k := 4) (j := 4) (by omega) (by omega) rfl]
          rw [ck_n (by omega) (by omega)]
          show some (IC 8 (nI m).toNatClampNeg, IC, L) = _
          rw [nI_clamp (by omega), u4 m hm]
      | 5, hk =>
        refine ⟨am_up IM 0 0 0, nI (g 6 m), ?_, hs, Or.inl ⟨z0, fun L => ?_⟩⟩
        · rw [mm_in h1 h6 LM hm (by omega)]
          unfold fX12_man_b24
          simp only [zz_lt]
          rw [if_neg n01, sw_n (k := 5) (j := 4) (by omega) (by omega) rfl]
          rw [show (6 : Int32) * nI m + nI 5 = nI (6 * m + 5) from by rw [e06, pk_mul, nI_add], ck_n (by omega) (by omega)]
          show some ((am_up IM 0 0 0) 14 (nI (6 * m + 5)).toNatClampNeg, am_up IM 0 0 0, LM) = _
          rw [nI_clamp (by omega), am_up_ne (by omega)]
          have := t5 m hm
          rw [this]
        · unfold fX11_man
          rw [pc_man1 h1 h3 am_N 1900 L hm]
          simp only [zz_b3, zz_lt]
          rw [if_neg n1_0, sw_n (k := 5) (j := 5) (by omega) (by omega) rfl]
          rw [ck_n (by omega) (by omega)]
          show some (IC 9 (nI m).toNatClampNeg, IC, L) = _
          rw [nI_clamp (by omega), u5 m hm]
      | 6, hk =>
        refine ⟨am_up IM 0 0 0, nI (g 10 m), ?_, hs, Or.inl ⟨z0, fun L => ?_⟩⟩
        · rw [mm_in h1 h6 LM hm (by omega)]
          unfold fX12_man_b24
          simp only [zz_lt]
          rw [if_neg n01, sw_n (k := 6) (j := 5) (by omega) (by omega) rfl]
          rw [show (8 : Int32) + nI m = nI (8 + m) from by rw [e08, nI_add], ck_n (by omega) (by omega)]
          show some ((am_up IM 0 0 0) 17 (nI (8 + m)).toNatClampNeg, am_up IM 0 0 0, LM) = _
          rw [nI_clamp (by omega), am_up_ne (by omega)]
          have := r1 m hm
          rw [this]
        · unfold fX11_man
          rw [pc_man1 h1 h3 am_N 1900 L hm]
          simp only [zz_b3, zz_lt]
          rw [if_neg n1_0, sw_n (k := 6) (j := 6) (by omega) (by omega) rfl]
          rw [ck_n (by omega) (by omega)]
          show some (IC 41 (nI m).toNatClampNeg, IC, L) = _
          rw [nI_clamp (by omega), s1 m hm]
      | 7, hk =>
        refine ⟨am_up IM 0 0 0, nI (g 11 m), ?_, hs, Or.inl ⟨z0, fun L => ?_⟩⟩
        · rw [mm_in h1 h6 LM hm (by omega)]
          unfold fX12_man_b24
          simp only [zz_lt]
          rw [if_neg n01, sw_n (k := 7) (j := 6) (by omega) (by omega) rfl]
          rw [show (16 : Int32) + nI m = nI (16 + m) from by rw [e16, nI_add], ck_n (by omega) (by omega)]
          show some ((am_up IM 0 0 0) 17 (nI (16 + m)).toNatClampNeg, am_up IM 0 0 0, LM) = _
          rw [nI_clamp (by omega), am_up_ne (by omega)]
          have := r2 m hm
          rw [this]
        · unfold fX11_man
          rw [pc_man1 h1 h3 am_N 1900 L hm]
          simp only [zz_b3, zz_lt]
          rw [if_neg n1_0, sw_n (k := 7) (j := 7) (by omega) (by omega) rfl]
          rw [pc_did h1 am_N 1900 h3 L hm]
          by_cases z : g 11 m = 0
          · rw [if_pos z, z]; rfl
          · rw [if_neg z, show g 11 m = 1 by omega]; rfl
      | 8, hk =>
        have h6' : MS (am_up IM 0 0 0) g := MS_keep h6 (ag_up ag_rf rfl)
        have h7' : ML (am_up IM 0 0 0) W q := ML_keep hl h7 (ag_up ag_rf rfl)
        obtain ⟨I9, w1, w2⟩ := pm_homeF h1 hl am_N 1900 am_N2 h6' h7' LM hm
        refine ⟨I9, nI (gh W g (q 1) m).toNat, ?_, R_scr hs ag_rf (ag_910 w2), Or.inl ⟨(w2 0 0 rfl).trans z0, fun L => ?_⟩⟩
        · rw [mm_in h1 h6 LM hm (by omega)]
          unfold fX12_man_b24
          simp only [zz_lt]
          rw [if_neg n01, sw_n (k := 8) (j := 7) (by omega) (by omega) rfl]
          rw [w1]
          cases gh W g (q 1) m <;> rfl
        · unfold fX11_man
          rw [pc_man1 h1 h3 am_N 1900 L hm]
          simp only [zz_b3, zz_lt]
          rw [if_neg n1_0, sw_n (k := 8) (j := 8) (by omega) (by omega) rfl]
          rw [pc_home (W := W) (q := q) h1 am_N 1900 h5 L hm]
          cases gh W g (q 1) m <;> rfl
      | k + 9, hk => omega
