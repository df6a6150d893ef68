/-! PURE: duels: the model's table. -/
def ixd (t a r b q : Nat) : Nat := (((t * 21 + a) * 10 + r) * 21 + b) * 10 + q
def spd (x y t : Nat) : Nat := if t = 0 then x else y
def s19 (k j : Nat) : Bool := k == 19 || (k == 0 && j == 34)
def MT (g : Nat → Nat → Nat) (x y : Nat) (I : am_I) : Prop := ∀ t a r b q, t ≤ 1 → 1 ≤ a → a ≤ 20 → r ≤ gRest g a → 1 ≤ b → b ≤ 20 → q ≤ gRest g b → I 19 (ixd t a r b q) = nI 0 ∨ I 19 (ixd t a r b q) = svd (DU g (spd x y t) (spd x y (1 - t)) a r b q).1
theorem s19_scr {I I' : am_I} (a : am_ag s19 I I') : am_ag scrM I I' := ag_wk a (fun k j h => by
  unfold s19
  by_cases c : k = 19
  · subst c; exact absurd h (by simp [scrM])
  · by_cases c2 : k = 0
    · subst c2
      by_cases c3 : j = 34
      · subst c3; exact absurd h (by simp [scrM])
      · simp [c3]
    · simp [c, c2])
theorem s19_ne {I I' : am_I} (a : am_ag s19 I I') {k : Nat} (h1 : k ≠ 19) (h0 : k ≠ 0) (j : Nat) : I' k j = I k j := a k j (by unfold s19; simp [h1, h0])
theorem svd_0 {v : Bool × Nat} (h1 : 1 ≤ v.2) (h2 : v.2 ≤ 500) : (svd v = nI 0) = False := by
  unfold svd
  split
  · exact zz_eqF (by omega)
  · exact zz_m2 (by omega)
theorem MT_up {g : Nat → Nat → Nat} (hg : GW g) {x y : Nat} {I : am_I} (h : MT g x y I) {t a r b q : Nat} (ht : t ≤ 1) (ha : 1 ≤ a ∧ a ≤ 20) (hr : r ≤ gRest g a) (hb : 1 ≤ b ∧ b ≤ 20) (hq : q ≤ gRest g b) (w : Int32) : MT g x y (am_up (am_up I 19 (ixd t a r b q) (svd (DU g (spd x y t) (spd x y (1 - t)) a r b q).1)) 0 34 w) := by
  intro t' a' r' b' q' h1 h2 h3 h4 h5 h6 h7
  have g1 := gRest_le hg a
  have g2 := gRest_le hg b
  have g3 := gRest_le hg a'
  have g4 := gRest_le hg b'
  rw [am_up_ne (by omega)]
  by_cases c : ixd t' a' r' b' q' = ixd t a r b q
  · unfold ixd at c
    have e1 : t' = t := by omega
    have e2 : a' = a := by omega
    have e3 : r' = r := by omega
    have e4 : b' = b := by omega
    have e5 : q' = q := by omega
    subst e1 e2 e3 e4 e5
    exact Or.inr (up_s rfl)
  · rw [up_n c]
    exact h t' a' r' b' q' h1 h2 h3 h4 h5 h6 h7
theorem MT_34 {g : Nat → Nat → Nat} {x y : Nat} {I : am_I} (h : MT g x y I) (w : Int32) : MT g x y (am_up I 0 34 w) := by
  intro t a r b q h1 h2 h3 h4 h5 h6 h7
  rw [am_up_ne (by omega)]
  exact h t a r b q h1 h2 h3 h4 h5 h6 h7
theorem DGo_n (g : Nat → Nat → Nat) (x y a b q : Nat) : 1 ≤ (DGo g x y a b q).2 ∧ (DGo g x y a b q).2 ≤ 500 := by
  unfold DGo
  split
  · exact ⟨Nat.le_refl _, by show 1 ≤ 500; omega⟩
  · have := (DU_n g y x b q (a - 1) (gRest g (a - 1))).1
    exact ⟨by show 1 ≤ _ + 1; omega, by show _ + 1 ≤ 500; omega⟩
theorem DSt_n (g : Nat → Nat → Nat) (x y a r b q : Nat) : 1 ≤ (DSt g x y a r b q).2 ∧ (DSt g x y a r b q).2 ≤ 500 := by
  have := (DU_n g y x b q a (r - 1)).1
  exact ⟨by show 1 ≤ _ + 1; omega, by show _ + 1 ≤ 500; omega⟩
theorem DPr_n (g : Nat → Nat → Nat) (x y a r b : Nat) : 1 ≤ (DPr g x y a r b).2 ∧ (DPr g x y a r b).2 ≤ 500 := by
  unfold DPr
  split
  · exact ⟨Nat.le_refl _, by show 1 ≤ 500; omega⟩
  · have := (DU_n g y x (b - x) (gRest g (b - x)) a (r - 1)).1
    exact ⟨by show 1 ≤ _ + 1; omega, by show _ + 1 ≤ 500; omega⟩
theorem b179o (n d : Nat) (gm : Nat → Int32 → Int32 → Int32 → Int32 → Int32 → am_I → am_L → Option (Int32 × am_I × am_L)) {k : Nat} (hk : k < 88200) (v w : Int32) (I : am_I) (L : am_L) : fX12_outcomeOf_b179 n d gm (nI k) v w I L = some (v, am_up (am_up I 19 k v) 0 34 w, L) := by
  simp (disch := omega) only [fX12_outcomeOf_b179, zz_lt, li_0, li_1, li_2, li_3, li_4, li_5, li_6, li_7, li_8, li_9, li_10, li_11, li_12, li_15, li_16, li_20, li_21, li_24, li_25, li_26, li_32, li_33, li_38, li_40, li_41, li_42, li_43, li_45, li_47, li_48, li_57, li_58, li_59, li_60, li_61, li_62, li_63, li_74, li_75, li_84, li_91, li_93, li_98, li_100, li_103, li_105, li_107, li_109, li_110, li_111, li_112, li_115, li_118, li_119, li_120, li_121, li_124, li_140, li_180, li_206, li_240, li_255, li_420, li_520, li_999, li_1000, li_1771, li_8240, li_9999, li_88200, li_1000000, li_2097151, li_31, nI_add, pk_mul, zz_sub, zz_an, nI_clamp, zz_leT, zz_leF, zz_ltT, zz_ltF, zz_eqF, zz_eqT, zz_m1, zz_m2, zz_m3, zz_m4, zz_m5, zz_m6, zz_ck, zz_bl, zz_b3, zz_b2, zz_shl, zz_bt0, zz_bt1, pk_div, Nat.zero_add, Nat.add_zero, if_true, if_false, reduceIte, Nat.mul_zero, zz_or0, zz_inT, zz_inF]
theorem oc {g : Nat → Nat → Nat} (hg : GW g) (n : Nat) (hn : 8 < n) (L : am_L) {x y : Nat} (hx : 1 ≤ x ∧ x ≤ 5) (hy : 1 ≤ y ∧ y ≤ 5) : ∀ (d t a r b q : Nat) (I : am_I), t ≤ 1 → (1 ≤ a ∧ a ≤ 20) → r ≤ gRest g a → (1 ≤ b ∧ b ≤ 20) → q ≤ gRest g b → plc g a r + plc g b q ≤ d → MS I g → I 20 0 = nI x → I 20 1 = nI y → MT g x y I → ∃ I', gX12_outcomeOf n (d + 1) 0 (nI t) (nI a) (nI r) (nI b) (nI q) I L = some (svd (DU g (spd x y t) (spd x y (1 - t)) a r b q).1, I', L) ∧ MT g x y I' ∧ am_ag s19 I I' ∧ (I 19 (ixd t a r b q) = nI 0 → I' 0 34 = nI (DU g (spd x y t) (spd x y (1 - t)) a r b q).2) := by
  intro d
  induction d with
  | zero =>
    intro t a r b q I ht ha hr hb hq hd
    have := lwS_m g (a := 0) (b := a) (by omega)
    unfold plc at hd
    omega
  | succ d ih =>
    intro t a r b q I ht ha hr hb hq hd hI h0 h1 hT
    have g1 := gRest_le hg a
    have g2 := gRest_le hg b
    obtain ⟨X, hX⟩ : ∃ X, X = spd x y t := ⟨_, rfl⟩
    obtain ⟨Y, hY⟩ : ∃ Y, Y = spd x y (1 - t) := ⟨_, rfl⟩
    have hX5 : 1 ≤ X ∧ X ≤ 5 := by rw [hX]; unfold spd; split <;> omega
    have hY5 : 1 ≤ Y ∧ Y ≤ 5 := by rw [hY]; unfold spd; split <;> omega
    obtain ⟨k, hk⟩ : ∃ k, k = ixd t a r b q := ⟨_, rfl⟩
    have hk2 : k < 88200 := by rw [hk]; unfold ixd; omega
    have pl : fX12_place n (d + 1) (nI t) (nI a) (nI r) (nI b) (nI q) I L = some (nI k, I, L) := by
      rw [hk]
      unfold ixd
      simp (disch := omega) only [fX12_place, zz_lt, li_0, li_1, li_2, li_3, li_4, li_5, li_6, li_7, li_8, li_9, li_10, li_11, li_12, li_15, li_16, li_20, li_21, li_24, li_25, li_26, li_32, li_33, li_38, li_40, li_41, li_42, li_43, li_45, li_47, li_48, li_57, li_58, li_59, li_60, li_61, li_62, li_63, li_74, li_75, li_84, li_91, li_93, li_98, li_100, li_103, li_105, li_107, li_109, li_110, li_111, li_112, li_115, li_118, li_119, li_120, li_121, li_124, li_140, li_180, li_206, li_240, li_255, li_420, li_520, li_999, li_1000, li_1771, li_8240, li_9999, li_88200, li_1000000, li_2097151, li_31, nI_add, pk_mul, zz_sub, zz_an, nI_clamp, zz_leT, zz_leF, zz_ltT, zz_ltF, zz_eqF, zz_eqT, zz_m1, zz_m2, zz_m3, zz_m4, zz_m5, zz_m6, zz_ck, zz_bl, zz_b3, zz_b2, zz_shl, zz_bt0, zz_bt1, pk_div, Nat.zero_add, Nat.add_zero, if_true, if_false, reduceIte, Nat.mul_zero, zz_or0, zz_inT, zz_inF]
    rw [← hX, ← hY, ← hk]
    have hT0 := hT t a r b q ht ha.1 ha.2 hr hb.1 hb.2 hq
    rw [← hX, ← hY, ← hk] at hT0
    obtain ⟨V, hV⟩ : ∃ V, V = DU g X Y a r b q := ⟨_, rfl⟩
    have Vn : (1 ≤ V.1.2 ∧ V.1.2 ≤ 151) ∧ V.2 ≤ 2 := by rw [hV]; exact DU_n g X Y a r b q
    have Ve := DU_eq hg hX5.1 hY5.1 ha hb hr hq
    rw [← hV] at hT0 Ve ⊢
    have step : gX12_outcomeOf n (d + 1 + 1) 0 (nI t) (nI a) (nI r) (nI b) (nI q) I L = fX12_outcomeOf_g n (d + 1) (gX12_outcomeOf n (d + 1)) (nI t) (nI a) (nI r) (nI b) (nI q) I L := rfl
    rw [step]
    have s1t : 1 - (1 - t) = t := by omega
    -- a reply
    have sub : ∀ (a' r' b' q' : Nat) (J : am_I), (1 ≤ a' ∧ a' ≤ 20) → r' ≤ gRest g a' → (1 ≤ b' ∧ b' ≤ 20) → q' ≤ gRest g b' → plc g a' r' + plc g b' q' ≤ d → MS J g → J 20 0 = nI x → J 20 1 = nI y → MT g x y J → ∃ J', gX12_outcomeOf n (d + 1) 0 (nI (1 - t)) (nI a') (nI r') (nI b') (nI q') J L = some (svd (DU g Y X a' r' b' q').1, J', L) ∧ fX12_turned n (d + 1) (svd (DU g Y X a' r' b' q').1) J' L = some (svd (tnV (DU g Y X a' r' b' q').1), J', L) ∧ MT g x y J' ∧ am_ag s19 J J' := fun a' r' b' q' J z1 z2 z3 z4 z5 z6 z7 z8 z9 => by
      obtain ⟨J', w1, w2, w3, _⟩ := ih (1 - t) a' r' b' q' J (by omega) z1 z2 z3 z4 z5 z6 z7 z8 z9
      rw [s1t, ← hX, ← hY] at w1
      have un := DU_n g Y X a' r' b' q'
      exact ⟨J', w1, pm_turned n (d + 1) J' L un.1.1 (by omega), w2, w3⟩
    have keep : ∀ J J' : am_I, am_ag s19 J J' → MS J g → J 20 0 = nI x → J 20 1 = nI y → MS J' g ∧ J' 20 0 = nI x ∧ J' 20 1 = nI y := fun J J' z1 z2 z3 z4 => ⟨MS_keep z2 (s19_scr z1), by rw [s19_ne z1 (by omega) (by omega)]; exact z3, by rw [s19_ne z1 (by omega) (by omega)]; exact z4⟩
    have e1 := plc_1 g ha.1
    rcases hT0 with z | z
    · -- not known yet
      have A : ∃ I1, fX12_outcomeOf_g n (d + 1) (gX12_outcomeOf n (d + 1)) (nI t) (nI a) (nI r) (nI b) (nI q) I L = fX12_outcomeOf_b63 n (d + 1) (gX12_outcomeOf n (d + 1)) (svd (DGo g X Y a b q)) (nI t) (nI a) (nI r) (nI b) (nI q) (nI k) I1 L ∧ MT g x y I1 ∧ am_ag s19 I I1 := by
        by_cases c : a = 1
        · refine ⟨I, ?_, hT, ag_rf⟩
          have e : svd (DGo g X Y a b q) = -nI 1 := by unfold DGo; rw [if_pos c]; rfl
          rw [e]
          subst c
          simp (disch := omega) only [fX12_outcomeOf_g, zz_lt, li_0, li_1, li_2, li_3, li_4, li_5, li_6, li_7, li_8, li_9, li_10, li_11, li_12, li_15, li_16, li_20, li_21, li_24, li_25, li_26, li_32, li_33, li_38, li_40, li_41, li_42, li_43, li_45, li_47, li_48, li_57, li_58, li_59, li_60, li_61, li_62, li_63, li_74, li_75, li_84, li_91, li_93, li_98, li_100, li_103, li_105, li_107, li_109, li_110, li_111, li_112, li_115, li_118, li_119, li_120, li_121, li_124, li_140, li_180, li_206, li_240, li_255, li_420, li_520, li_999, li_1000, li_1771, li_8240, li_9999, li_88200, li_1000000, li_2097151, li_31, nI_add, pk_mul, zz_sub, zz_an, nI_clamp, zz_leT, zz_leF, zz_ltT, zz_ltF, zz_eqF, zz_eqT, zz_m1, zz_m2, zz_m3, zz_m4, zz_m5, zz_m6, zz_ck, zz_bl, zz_b3, zz_b2, zz_shl, zz_bt0, zz_bt1, pk_div, Nat.zero_add, Nat.add_zero, if_true, if_false, reduceIte, Nat.mul_zero, zz_or0, zz_inT, zz_inF, pl, z]
        · have rs := pm_rest hg hI n (d + 1) hn L (s := a - 1) (by omega)
          obtain ⟨I1, w1, w2, w3, w4⟩ := sub b q (a - 1) (gRest g (a - 1)) I hb hq (by omega) (Nat.le_refl _) (by unfold plc at *; omega) hI h0 h1 hT
          refine ⟨I1, ?_, w3, w4⟩
          have e : DGo g X Y a b q = tnV (DU g Y X b q (a - 1) (gRest g (a - 1))).1 := by unfold DGo; rw [if_neg c]
          rw [e]
          simp (disch := omega) only [fX12_outcomeOf_g, zz_lt, li_0, li_1, li_2, li_3, li_4, li_5, li_6, li_7, li_8, li_9, li_10, li_11, li_12, li_15, li_16, li_20, li_21, li_24, li_25, li_26, li_32, li_33, li_38, li_40, li_41, li_42, li_43, li_45, li_47, li_48, li_57, li_58, li_59, li_60, li_61, li_62, li_63, li_74, li_75, li_84, li_91, li_93, li_98, li_100, li_103, li_105, li_107, li_109, li_110, li_111, li_112, li_115, li_118, li_119, li_120, li_121, li_124, li_140, li_180, li_206, li_240, li_255, li_420, li_520, li_999, li_1000, li_1771, li_8240, li_9999, li_88200, li_1000000, li_2097151, li_31, nI_add, pk_mul, zz_sub, zz_an, nI_clamp, zz_leT, zz_leF, zz_ltT, zz_ltF, zz_eqF, zz_eqT, zz_m1, zz_m2, zz_m3, zz_m4, zz_m5, zz_m6, zz_ck, zz_bl, zz_b3, zz_b2, zz_shl, zz_bt0, zz_bt1, pk_div, Nat.zero_add, Nat.add_zero, if_true, if_false, reduceIte, Nat.mul_zero, zz_or0, zz_inT, zz_inF, pl, z, rs, w1, w2]
      obtain ⟨I1, A1, A2, A3⟩ := A
      rw [A1]
      have gn := DGo_n g X Y a b q
      have M2 := MT_34 A2 (nI 0)
      have A3' : am_ag s19 I (am_up I1 0 34 (nI 0)) := ag_up A3 rfl
      obtain ⟨I2, hI2⟩ : ∃ I2, I2 = am_up I1 0 34 (nI 0) := ⟨_, rfl⟩
      rw [← hI2] at M2 A3'
      have hI2' := hI2.symm
      by_cases c : r = 0
      · rw [if_pos c] at Ve
        have v1 : V.1 = DGo g X Y a b q := by rw [Ve]
        have v2 : V.2 = 0 := by rw [Ve]
        refine ⟨am_up (am_up I2 19 k (svd V.1)) 0 34 (nI 0), ?_, ?_, ag_up (ag_up A3' rfl) rfl, fun _ => by rw [up_s rfl, v2]⟩
        · rw [v1]
          have bo := b179o n (d + 1) (gX12_outcomeOf n (d + 1)) hk2 (svd (DGo g X Y a b q)) (nI 0) I2 L
          subst c
          simp (disch := omega) only [fX12_outcomeOf_b63, zz_lt, li_0, li_1, li_2, li_3, li_4, li_5, li_6, li_7, li_8, li_9, li_10, li_11, li_12, li_15, li_16, li_20, li_21, li_24, li_25, li_26, li_32, li_33, li_38, li_40, li_41, li_42, li_43, li_45, li_47, li_48, li_57, li_58, li_59, li_60, li_61, li_62, li_63, li_74, li_75, li_84, li_91, li_93, li_98, li_100, li_103, li_105, li_107, li_109, li_110, li_111, li_112, li_115, li_118, li_119, li_120, li_121, li_124, li_140, li_180, li_206, li_240, li_255, li_420, li_520, li_999, li_1000, li_1771, li_8240, li_9999, li_88200, li_1000000, li_2097151, li_31, nI_add, pk_mul, zz_sub, zz_an, nI_clamp, zz_leT, zz_leF, zz_ltT, zz_ltF, zz_eqF, zz_eqT, zz_m1, zz_m2, zz_m3, zz_m4, zz_m5, zz_m6, zz_ck, zz_bl, zz_b3, zz_b2, zz_shl, zz_bt0, zz_bt1, pk_div, Nat.zero_add, Nat.add_zero, if_true, if_false, reduceIte, Nat.mul_zero, zz_or0, zz_inT, zz_inF, hI2', bo]
        · have := MT_up hg M2 ht ha hr hb hq (nI 0)
          rw [← hX, ← hY, ← hk, ← hV] at this
          exact this
      · rw [if_neg c] at Ve
        obtain ⟨k1, k2, k3⟩ := keep I I2 A3' hI h0 h1
        obtain ⟨I3, w1, w2, w3, w4⟩ := sub b q a (r - 1) I2 hb hq ha (by omega) (by unfold plc at *; omega) k1 k2 k3 M2
        have e : tnV (DU g Y X b q a (r - 1)).1 = DSt g X Y a r b q := rfl
        rw [e] at w2
        have sn := DSt_n g X Y a r b q
        have pn := DPr_n g X Y a r b
        have A4 := ag_tr A3' w4
        obtain ⟨j1, j2, j3⟩ := keep I I3 A4 hI h0 h1
        have bt1 := pm_better n (d + 1) I3 L sn.1 sn.2 gn.1 gn.2
        have j20 : I3 20 t = nI X := by
          rw [hX]; unfold spd
          by_cases t0 : t = 0
          · rw [if_pos t0, t0]; exact j2
          · rw [if_neg t0, show t = 1 by omega]; exact j3
        have mx := J_max0 n (d + 1) b X I3 L (by omega) (by omega)
        have B : ∀ (best : Bool × Nat) (wh : Nat), 1 ≤ best.2 → best.2 ≤ 500 → ∃ I4, fX12_outcomeOf_b114 n (d + 1) (gX12_outcomeOf n (d + 1)) (nI t) (nI a) (nI r) (nI b) (nI k) (svd best) (nI wh) I3 L = (if btr (DPr g X Y a r b) best = true then some (svd (DPr g X Y a r b), am_up (am_up I4 19 k (svd (DPr g X Y a r b))) 0 34 (nI 2), L) else some (svd best, am_up (am_up I4 19 k (svd best)) 0 34 (nI wh), L)) ∧ MT g x y I4 ∧ am_ag s19 I I4 := fun best wh q1 q2 => by
          have fin : ∀ (J : am_I), fX12_outcomeOf_b160 n (d + 1) (gX12_outcomeOf n (d + 1)) (svd (DPr g X Y a r b)) (nI k) (svd best) (nI wh) J L = (if btr (DPr g X Y a r b) best = true then some (svd (DPr g X Y a r b), am_up (am_up J 19 k (svd (DPr g X Y a r b))) 0 34 (nI 2), L) else some (svd best, am_up (am_up J 19 k (svd best)) 0 34 (nI wh), L)) := fun J => by
            have bt2 := pm_better n (d + 1) J L pn.1 pn.2 q1 q2
            have b1 := b179o n (d + 1) (gX12_outcomeOf n (d + 1)) hk2 (svd (DPr g X Y a r b)) (nI 2) J L
            have b2 := b179o n (d + 1) (gX12_outcomeOf n (d + 1)) hk2 (svd best) (nI wh) J L
            cases cc : btr (DPr g X Y a r b) best
            · rw [cc] at bt2
              simp (disch := omega) only [fX12_outcomeOf_b160, zz_lt, li_0, li_1, li_2, li_3, li_4, li_5, li_6, li_7, li_8, li_9, li_10, li_11, li_12, li_15, li_16, li_20, li_21, li_24, li_25, li_26, li_32, li_33, li_38, li_40, li_41, li_42, li_43, li_45, li_47, li_48, li_57, li_58, li_59, li_60, li_61, li_62, li_63, li_74, li_75, li_84, li_91, li_93, li_98, li_100, li_103, li_105, li_107, li_109, li_110, li_111, li_112, li_115, li_118, li_119, li_120, li_121, li_124, li_140, li_180, li_206, li_240, li_255, li_420, li_520, li_999, li_1000, li_1771, li_8240, li_9999, li_88200, li_1000000, li_2097151, li_31, nI_add, pk_mul, zz_sub, zz_an, nI_clamp, zz_leT, zz_leF, zz_ltT, zz_ltF, zz_eqF, zz_eqT, zz_m1, zz_m2, zz_m3, zz_m4, zz_m5, zz_m6, zz_ck, zz_bl, zz_b3, zz_b2, zz_shl, zz_bt0, zz_bt1, pk_div, Nat.zero_add, Nat.add_zero, if_true, if_false, reduceIte, Nat.mul_zero, zz_or0, zz_inT, zz_inF, bt2, Bool.toNat_false, b2, Bool.false_eq_true]
            · rw [cc] at bt2
              simp (disch := omega) only [fX12_outcomeOf_b160, zz_lt, li_0, li_1, li_2, li_3, li_4, li_5, li_6, li_7, li_8, li_9, li_10, li_11, li_12, li_15, li_16, li_20, li_21, li_24, li_25, li_26, li_32, li_33, li_38, li_40, li_41, li_42, li_43, li_45, li_47, li_48, li_57, li_58, li_59, li_60, li_61, li_62, li_63, li_74, li_75, li_84, li_91, li_93, li_98, li_100, li_103, li_105, li_107, li_109, li_110, li_111, li_112, li_115, li_118, li_119, li_120, li_121, li_124, li_140, li_180, li_206, li_240, li_255, li_420, li_520, li_999, li_1000, li_1771, li_8240, li_9999, li_88200, li_1000000, li_2097151, li_31, nI_add, pk_mul, zz_sub, zz_an, nI_clamp, zz_leT, zz_leF, zz_ltT, zz_ltF, zz_eqF, zz_eqT, zz_m1, zz_m2, zz_m3, zz_m4, zz_m5, zz_m6, zz_ck, zz_bl, zz_b3, zz_b2, zz_shl, zz_bt0, zz_bt1, pk_div, Nat.zero_add, Nat.add_zero, if_true, if_false, reduceIte, Nat.mul_zero, zz_or0, zz_inT, zz_inF, bt2, Bool.toNat_true, b1]
          by_cases c2 : b ≤ X
          · refine ⟨I3, ?_, w3, A4⟩
            rw [← fin I3]
            have e : DPr g X Y a r b = (true, 1) := by unfold DPr; rw [if_pos c2]
            have e' : svd (true, 1) = nI 1 := rfl
            rw [e, e']
            have z0 : b - X = 0 := by omega
            rw [z0] at mx
            simp (disch := omega) only [fX12_outcomeOf_b114, zz_lt, li_0, li_1, li_2, li_3, li_4, li_5, li_6, li_7, li_8, li_9, li_10, li_11, li_12, li_15, li_16, li_20, li_21, li_24, li_25, li_26, li_32, li_33, li_38, li_40, li_41, li_42, li_43, li_45, li_47, li_48, li_57, li_58, li_59, li_60, li_61, li_62, li_63, li_74, li_75, li_84, li_91, li_93, li_98, li_100, li_103, li_105, li_107, li_109, li_110, li_111, li_112, li_115, li_118, li_119, li_120, li_121, li_124, li_140, li_180, li_206, li_240, li_255, li_420, li_520, li_999, li_1000, li_1771, li_8240, li_9999, li_88200, li_1000000, li_2097151, li_31, nI_add, pk_mul, zz_sub, zz_an, nI_clamp, zz_leT, zz_leF, zz_ltT, zz_ltF, zz_eqF, zz_eqT, zz_m1, zz_m2, zz_m3, zz_m4, zz_m5, zz_m6, zz_ck, zz_bl, zz_b3, zz_b2, zz_shl, zz_bt0, zz_bt1, pk_div, Nat.zero_add, Nat.add_zero, if_true, if_false, reduceIte, Nat.mul_zero, zz_or0, zz_inT, zz_inF, j20, mx]
          · have rs := pm_rest hg j1 n (d + 1) hn L (s := b - X) (by omega)
            have e2 := plc_lt g (a := b - X) (b := b) (by omega)
            obtain ⟨I4, u1, u2, u3, u4⟩ := sub (b - X) (gRest g (b - X)) a (r - 1) I3 (by omega) (Nat.le_refl _) ha (by omega) (by unfold plc at *; omega) j1 j2 j3 w3
            refine ⟨I4, ?_, u3, ag_tr A4 u4⟩
            rw [← fin I4]
            have mx2 : fJ9_max_7cf53 n (d + 1) (nI 0) (nI (b - X)) I3 L = some (nI (b - X), I3, L) := by rw [J_max n (d + 1) 0 (b - X) I3 L (by omega) (by omega), Nat.zero_max]
            have e : DPr g X Y a r b = tnV (DU g Y X (b - X) (gRest g (b - X)) a (r - 1)).1 := by unfold DPr; rw [if_neg c2]
            rw [e]
            simp (disch := omega) only [fX12_outcomeOf_b114, zz_lt, li_0, li_1, li_2, li_3, li_4, li_5, li_6, li_7, li_8, li_9, li_10, li_11, li_12, li_15, li_16, li_20, li_21, li_24, li_25, li_26, li_32, li_33, li_38, li_40, li_41, li_42, li_43, li_45, li_47, li_48, li_57, li_58, li_59, li_60, li_61, li_62, li_63, li_74, li_75, li_84, li_91, li_93, li_98, li_100, li_103, li_105, li_107, li_109, li_110, li_111, li_112, li_115, li_118, li_119, li_120, li_121, li_124, li_140, li_180, li_206, li_240, li_255, li_420, li_520, li_999, li_1000, li_1771, li_8240, li_9999, li_88200, li_1000000, li_2097151, li_31, nI_add, pk_mul, zz_sub, zz_an, nI_clamp, zz_leT, zz_leF, zz_ltT, zz_ltF, zz_eqF, zz_eqT, zz_m1, zz_m2, zz_m3, zz_m4, zz_m5, zz_m6, zz_ck, zz_bl, zz_b3, zz_b2, zz_shl, zz_bt0, zz_bt1, pk_div, Nat.zero_add, Nat.add_zero, if_true, if_false, reduceIte, Nat.mul_zero, zz_or0, zz_inT, zz_inF, j20, mx2, rs, u1, u2]
        have stp : ∀ (best : Bool × Nat) (wh : Nat) (R : Option (Int32 × am_I × am_L)), (if btr (DSt g X Y a r b q) (DGo g X Y a b q) = true then best = DSt g X Y a r b q ∧ wh = 1 else best = DGo g X Y a b q ∧ wh = 0) → fX12_outcomeOf_b114 n (d + 1) (gX12_outcomeOf n (d + 1)) (nI t) (nI a) (nI r) (nI b) (nI k) (svd best) (nI wh) I3 L = R → fX12_outcomeOf_b63 n (d + 1) (gX12_outcomeOf n (d + 1)) (svd (DGo g X Y a b q)) (nI t) (nI a) (nI r) (nI b) (nI q) (nI k) I1 L = R := fun best wh R hb hR => by
          rw [← hR]
          cases cc : btr (DSt g X Y a r b q) (DGo g X Y a b q)
          · rw [cc] at hb bt1
            rw [if_neg (by decide)] at hb
            obtain ⟨q1, q2⟩ := hb
            subst q1 q2
            simp (disch := omega) only [fX12_outcomeOf_b63, zz_lt, li_0, li_1, li_2, li_3, li_4, li_5, li_6, li_7, li_8, li_9, li_10, li_11, li_12, li_15, li_16, li_20, li_21, li_24, li_25, li_26, li_32, li_33, li_38, li_40, li_41, li_42, li_43, li_45, li_47, li_48, li_57, li_58, li_59, li_60, li_61, li_62, li_63, li_74, li_75, li_84, li_91, li_93, li_98, li_100, li_103, li_105, li_107, li_109, li_110, li_111, li_112, li_115, li_118, li_119, li_120, li_121, li_124, li_140, li_180, li_206, li_240, li_255, li_420, li_520, li_999, li_1000, li_1771, li_8240, li_9999, li_88200, li_1000000, li_2097151, li_31, nI_add, pk_mul, zz_sub, zz_an, nI_clamp, zz_leT, zz_leF, zz_ltT, zz_ltF, zz_eqF, zz_eqT, zz_m1, zz_m2, zz_m3, zz_m4, zz_m5, zz_m6, zz_ck, zz_bl, zz_b3, zz_b2, zz_shl, zz_bt0, zz_bt1, pk_div, Nat.zero_add, Nat.add_zero, if_true, if_false, reduceIte, Nat.mul_zero, zz_or0, zz_inT, zz_inF, hI2', w1, w2, bt1, Bool.toNat_false]
          · rw [cc] at hb bt1
            rw [if_pos rfl] at hb
            obtain ⟨q1, q2⟩ := hb
            subst q1 q2
            simp (disch := omega) only [fX12_outcomeOf_b63, zz_lt, li_0, li_1, li_2, li_3, li_4, li_5, li_6, li_7, li_8, li_9, li_10, li_11, li_12, li_15, li_16, li_20, li_21, li_24, li_25, li_26, li_32, li_33, li_38, li_40, li_41, li_42, li_43, li_45, li_47, li_48, li_57, li_58, li_59, li_60, li_61, li_62, li_63, li_74, li_75, li_84, li_91, li_93, li_98, li_100, li_103, li_105, li_107, li_109, li_110, li_111, li_112, li_115, li_118, li_119, li_120, li_121, li_124, li_140, li_180, li_206, li_240, li_255, li_420, li_520, li_999, li_1000, li_1771, li_8240, li_9999, li_88200, li_1000000, li_2097151, li_31, nI_add, pk_mul, zz_sub, zz_an, nI_clamp, zz_leT, zz_leF, zz_ltT, zz_ltF, zz_eqF, zz_eqT, zz_m1, zz_m2, zz_m3, zz_m4, zz_m5, zz_m6, zz_ck, zz_bl, zz_b3, zz_b2, zz_shl, zz_bt0, zz_bt1, pk_div, Nat.zero_add, Nat.add_zero, if_true, if_false, reduceIte, Nat.mul_zero, zz_or0, zz_inT, zz_inF, hI2', w1, w2, bt1, Bool.toNat_true]
        have done : ∀ (I4 : am_I), MT g x y I4 → am_ag s19 I I4 → ∃ I', some (svd V.1, am_up (am_up I4 19 k (svd V.1)) 0 34 (nI V.2), L) = some (svd V.1, I', L) ∧ MT g x y I' ∧ am_ag s19 I I' ∧ (I 19 k = nI 0 → I' 0 34 = nI V.2) := fun I4 m1 m2 => by
          refine ⟨_, rfl, ?_, ag_up (ag_up m2 rfl) rfl, fun _ => up_s rfl⟩
          have := MT_up hg m1 ht ha hr hb hq (nI V.2)
          rw [← hX, ← hY, ← hk, ← hV] at this
          exact this
        unfold pk3 at Ve
        cases cc : btr (DSt g X Y a r b q) (DGo g X Y a b q)
        · rw [cc, if_neg (by decide)] at Ve
          obtain ⟨I4, b1, b2, b3⟩ := B (DGo g X Y a b q) 0 gn.1 gn.2
          rw [stp (DGo g X Y a b q) 0 _ (by rw [cc, if_neg (by decide)]; exact ⟨rfl, rfl⟩) b1]
          cases c3 : btr (DPr g X Y a r b) (DGo g X Y a b q)
          · rw [c3, if_neg (by decide)] at Ve
            rw [if_neg (by decide)]
            have d1 := done I4 b2 b3
            rw [Ve] at d1 ⊢
            exact d1
          · rw [c3, if_pos rfl] at Ve
            rw [if_pos rfl]
            have d1 := done I4 b2 b3
            rw [Ve] at d1 ⊢
            exact d1
        · rw [cc, if_pos rfl] at Ve
          obtain ⟨I4, b1, b2, b3⟩ := B (DSt g X Y a r b q) 1 sn.1 sn.2
          rw [stp (DSt g X Y a r b q) 1 _ (by rw [cc, if_pos rfl]; exact ⟨rfl, rfl⟩) b1]
          cases c3 : btr (DPr g X Y a r b) (DSt g X Y a r b q)
          · rw [c3, if_neg (by decide)] at Ve
            rw [if_neg (by decide)]
            have d1 := done I4 b2 b3
            rw [Ve] at d1 ⊢
            exact d1
          · rw [c3, if_pos rfl] at Ve
            rw [if_pos rfl]
            have d1 := done I4 b2 b3
            rw [Ve] at d1 ⊢
            exact d1
    · -- known
      have nz := svd_0 (v := V.1) Vn.1.1 (by omega)
      refine ⟨I, ?_, hT, ag_rf, fun q => ?_⟩
      · simp (disch := omega) only [fX12_outcomeOf_g, zz_lt, li_0, li_1, li_2, li_3, li_4, li_5, li_6, li_7, li_8, li_9, li_10, li_11, li_12, li_15, li_16, li_20, li_21, li_24, li_25, li_26, li_32, li_33, li_38, li_40, li_41, li_42, li_43, li_45, li_47, li_48, li_57, li_58, li_59, li_60, li_61, li_62, li_63, li_74, li_75, li_84, li_91, li_93, li_98, li_100, li_103, li_105, li_107, li_109, li_110, li_111, li_112, li_115, li_118, li_119, li_120, li_121, li_124, li_140, li_180, li_206, li_240, li_255, li_420, li_520, li_999, li_1000, li_1771, li_8240, li_9999, li_88200, li_1000000, li_2097151, li_31, nI_add, pk_mul, zz_sub, zz_an, nI_clamp, zz_leT, zz_leF, zz_ltT, zz_ltF, zz_eqF, zz_eqT, zz_m1, zz_m2, zz_m3, zz_m4, zz_m5, zz_m6, zz_ck, zz_bl, zz_b3, zz_b2, zz_shl, zz_bt0, zz_bt1, pk_div, Nat.zero_add, Nat.add_zero, if_true, if_false, reduceIte, Nat.mul_zero, zz_or0, zz_inT, zz_inF, pl, z, nz]
      · rw [z] at q
        rw [nz] at q
        exact q.elim
