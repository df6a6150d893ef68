/-! PURE: acts kept and undone. -/
def pot (s : Nat → Nat → Nat) (μ : Nat) : Nat := 9 * s 0 4 + sm (s 11) μ
/-- a: how many acts are kept, K: how it was, kw: how many lines were written (kw a: now), l: the lines -/
def GP (g : Nat → Nat → Nat) (a : Nat) (K : Nat → Nat → Nat → Nat) (kw l : Nat → Nat) : Prop := a ≤ 40 ∧ (∀ i, i < a → kw i ≤ kw (i + 1) ∧ kw (i + 1) ≤ kw i + 9) ∧ (∀ i, i < a → RV g (K i) ∧ kw i ≤ pot (K i) (g 0 0)) ∧ kw a ≤ pot g (g 0 0) ∧ (∀ t, l t ≤ 399)
def CP (I : am_I) (L : am_L) (μ a : Nat) (K : Nat → Nat → Nat → Nat) (kw l : Nat → Nat) : Prop := I 45 6 = nI a ∧ I 42 3 = nI (kw a) ∧ (∀ t, kw 0 ≤ t + 60 → t < kw a → I 43 (t % 420) = nI (l t)) ∧ ∃ σ, σ ≤ 40 ∧ I 45 5 = nI σ ∧ (∀ i, i < a → PK I L μ ((σ + 40 - a + i) % 40) (K i) ∧ I 50 ((σ + 40 - a + i) % 40) = nI (kw i))
def MP (I : am_I) (μ a : Nat) (K : Nat → Nat → Nat → Nat) (kw l : Nat → Nat) : Prop := I 0 30 = nI a ∧ (∀ i, i < a → SN (fun j => I 18 (206 * i + j)) μ (K i) (kw i) l) ∧ LG (I 17) (kw a) l
theorem sm_le {p : Nat → Nat} : ∀ n, (∀ m, m < n → p m ≤ 1) → sm p n ≤ n
  | 0, _ => Nat.le_refl _
  | n + 1, h => by
    have := sm_le n (fun m hm => h m (by omega))
    have := h n (by omega)
    unfold sm
    omega
theorem pot_le {g s : Nat → Nat → Nat} (hg : GW g) (h : RV g s) : pot s (g 0 0) ≤ 100000 := by
  have := sm_le (p := s 11) (g 0 0) (fun m hm => (h.1 m hm).2.2)
  have := hg.1
  have := h.2
  unfold pot
  omega
theorem GP_mono {g : Nat → Nat → Nat} {a : Nat} {K : Nat → Nat → Nat → Nat} {kw l : Nat → Nat} (h : GP g a K kw l) : ∀ i, i ≤ a → kw 0 ≤ kw i ∧ kw i ≤ kw 0 + 9 * i
  | 0, _ => by omega
  | i + 1, hi => by
    have := GP_mono h i (by omega)
    have := h.2.1 i (by omega)
    omega
def pK (a : Nat) (K : Nat → Nat → Nat → Nat) (g : Nat → Nat → Nat) : Nat → Nat → Nat → Nat := fun i => if i < min a 39 then K (i + (a - min a 39)) else g
def pW (a : Nat) (kw : Nat → Nat) : Nat → Nat := fun i => if i < min a 39 then kw (i + (a - min a 39)) else kw a
theorem pW_t {a i : Nat} {kw : Nat → Nat} (h : i < min a 39) : pW a kw i = kw (i + (a - min a 39)) := if_pos h
theorem pW_f {a i : Nat} {kw : Nat → Nat} (h : ¬ i < min a 39) : pW a kw i = kw a := if_neg h
theorem pK_t {a i : Nat} {K : Nat → Nat → Nat → Nat} {g : Nat → Nat → Nat} (h : i < min a 39) : pK a K g i = K (i + (a - min a 39)) := if_pos h
theorem pK_f {a i : Nat} {K : Nat → Nat → Nat → Nat} {g : Nat → Nat → Nat} (h : ¬ i < min a 39) : pK a K g i = g := if_neg h
theorem GP_keep {g : Nat → Nat → Nat} {a : Nat} {K : Nat → Nat → Nat → Nat} {kw l : Nat → Nat} (hg : GW g) (h : GP g a K kw l) : GP g (min a 39 + 1) (pK a K g) (pW a kw) l := by
  obtain ⟨h1, h2, h3, h4, h5⟩ := h
  refine ⟨by omega, fun i hi => ?_, fun i hi => ?_, ?_, h5⟩
  · by_cases c : i + 1 < min a 39
    · rw [pW_t c, pW_t (by omega)]
      have := h2 (i + (a - min a 39)) (by omega)
      rw [show i + 1 + (a - min a 39) = i + (a - min a 39) + 1 by omega]
      exact this
    · rw [pW_f c]
      by_cases c2 : i < min a 39
      · rw [pW_t c2]
        have := h2 (i + (a - min a 39)) (by omega)
        rw [show i + (a - min a 39) + 1 = a by omega] at this
        exact this
      · rw [pW_f c2]; omega
  · by_cases c : i < min a 39
    · rw [pW_t c, pK_t c]
      exact h3 _ (by omega)
    · rw [pW_f c, pK_f c]
      exact ⟨RV_g hg, h4⟩
  · rw [pW_f (by omega)]; exact h4
theorem pW_0 {g : Nat → Nat → Nat} {a : Nat} {K : Nat → Nat → Nat → Nat} {kw l : Nat → Nat} (h : GP g a K kw l) : kw 0 ≤ pW a kw 0 := by
  by_cases c : 0 < min a 39
  · rw [pW_t c]; exact (GP_mono h _ (by have := h.1; omega)).1
  · rw [pW_f c]; exact (GP_mono h _ (Nat.le_refl _)).1
/-- where acts write: the class, the model -/
def sDC (k j : Nat) : Bool := scrC k j || k == 39 || k == 40 || k == 41 || (k == 42 && j == 3) || k == 43 || (k == 45 && (j == 5 || j == 6)) || ((k == 48 || k == 49) && decide (j < 40)) || k == 50
def sDM (k j : Nat) : Bool := scrM k j || k == 17 || k == 18 || (k == 0 && j == 30)
def aLD (L L' : am_L) : Prop := L' 46 40 = L 46 40 ∧ L' 47 40 = L 47 40
theorem aLD_rf {L : am_L} : aLD L L := ⟨rfl, rfl⟩
theorem aLD_tr {L L' L'' : am_L} (h : aLD L L') (h2 : aLD L' L'') : aLD L L'' := ⟨h2.1.trans h.1, h2.2.trans h.2⟩
theorem sDC_48 {j : Nat} (h : j < 40) : sDC 48 j = true := by simp [sDC, h]
theorem sDC_49 {j : Nat} (h : j < 40) : sDC 49 j = true := by simp [sDC, h]
theorem sDC_43 {j : Nat} : sDC 43 j = true := by simp [sDC]
theorem sDC_50 {j : Nat} : sDC 50 j = true := by simp [sDC]
def sPa (k j : Nat) : Bool := (k == 45 && (j == 5 || j == 6)) || ((k == 48 || k == 49) && decide (j < 40)) || k == 50
theorem sPa_48 {j : Nat} (h : j < 40) : sPa 48 j = true := by simp [sPa, h]
theorem sPa_49 {j : Nat} (h : j < 40) : sPa 49 j = true := by simp [sPa, h]
theorem sPa_50 {j : Nat} : sPa 50 j = true := by simp [sPa]
theorem pc_keepA {g : Nat → Nat → Nat} {I : am_I} {L : am_L} {a : Nat} {K : Nat → Nat → Nat → Nat} {kw l : Nat → Nat} (hg : GW g) (h : CS I g) (hp : GP g a K kw l) (hP : CP I L (g 0 0) a K kw l) (n d : Nat) (hn : 8 < n) : ∃ I' L', fX6_keepAct_road_logbook n d I L = some (I', L') ∧ CP I' L' (g 0 0) (min a 39 + 1) (pK a K g) (pW a kw) l ∧ am_ag sPa I I' ∧ aLD L L' ∧ L' 0 = L 0 := by
  have gm := hg.1
  obtain ⟨p1, p2, p3, σ, p4, p5, p6⟩ := hP
  have ha := hp.1
  have hs : σ % 40 < 40 := Nat.mod_lt _ (by omega)
  have hk := fun I (h : CS I g) L => pc_keepR hg h n d (I := I) L (j := σ % 40) (by omega) hn
  have c1 : CS (am_up I 45 5 (nI (σ % 40))) g := by
    unfold CS at *
    simp (disch := omega) only [am_up_ne]
    exact h
  have hk1 := hk _ c1 L
  have fm := fun I L => J_fm n d σ 40 I L (by omega) (by omega) (by omega)
  have mn := fun I L => J_min n d (a + 1) 40 I L (by omega) (by omega)
  generalize hb : am_bits (fun m => decide (g 11 m = 1)) (g 0 0) = bits at hk1
  generalize hP5 : pkd 5 (g 9) (g 0 0) = P5 at hk1
  generalize hP4 : pkd 4 (g 10) (g 0 0) = P4 at hk1
  refine ⟨am_up (am_up (am_up (am_up (am_up (am_up I 45 5 (nI (σ % 40))) 48 (σ % 40) bits) 49 (σ % 40) (nI (g 0 4))) 50 (σ % 40) (nI (kw a))) 45 5 (nI (σ % 40 + 1))) 45 6 (nI (min (a + 1) 40)), am_uL (am_uL L 46 (σ % 40) (lN P5)) 47 (σ % 40) (lN P4), ?_, ?_, ?_, ?_, by rw [am_uL_ne (by omega), am_uL_ne (by omega)]⟩
  · simp (disch := omega) only [fX6_keepAct_road_logbook, zz_lt, li_0, li_1, li_2, li_3, li_4, li_5, li_6, li_7, li_8, li_9, li_10, li_11, li_12, li_15, li_16, li_20, li_21, li_24, li_25, li_26, li_32, li_33, li_38, li_40, li_41, li_42, li_43, li_45, li_47, li_48, li_57, li_58, li_59, li_60, li_61, li_62, li_63, li_74, li_75, li_84, li_91, li_93, li_98, li_100, li_103, li_105, li_107, li_109, li_110, li_111, li_112, li_115, li_118, li_119, li_120, li_121, li_124, li_140, li_180, li_206, li_240, li_255, li_420, li_520, li_999, li_1000, li_1771, li_8240, li_9999, li_88200, li_1000000, li_2097151, li_31, nI_add, pk_mul, zz_sub, zz_an, nI_clamp, zz_leT, zz_leF, zz_ltT, zz_ltF, zz_eqF, zz_eqT, zz_m1, zz_m2, zz_m3, zz_m4, zz_m5, zz_m6, zz_ck, zz_bl, zz_b3, zz_b2, zz_shl, zz_bt0, zz_bt1, pk_div, Nat.zero_add, Nat.add_zero, if_true, if_false, reduceIte, Nat.mul_zero, zz_or0, zz_inT, zz_inF, p5, fm, hk1, up_s, up_n, am_up_ne, p2, p1, mn]
  · refine ⟨?_, ?_, ?_, σ % 40 + 1, by omega, ?_, ?_⟩
    · rw [up_s rfl]; congr 1; omega
    · rw [am_up_ne (by omega), am_up_ne (by omega), am_up_ne (by omega), am_up_ne (by omega), am_up_ne (by omega), am_up_ne (by omega), p2, pW_f (by omega)]
    · intro t h1 h2
      rw [am_up_ne (by omega), am_up_ne (by omega), am_up_ne (by omega), am_up_ne (by omega), am_up_ne (by omega), am_up_ne (by omega)]
      rw [pW_f (by omega)] at h2
      exact p3 t (by have := pW_0 hp; omega) h2
    · rw [up_n (by omega), up_s rfl]
    · intro i hi
      by_cases c : i < min a 39
      · have hj : (σ % 40 + 1 + 40 - (min a 39 + 1) + i) % 40 = (σ + 40 - a + (i + (a - min a 39))) % 40 := by omega
        have hne : (σ + 40 - a + (i + (a - min a 39))) % 40 ≠ σ % 40 := by omega
        rw [hj, pK_t c, pW_t c]
        obtain ⟨⟨q1, q2, q3, q4⟩, q5⟩ := p6 (i + (a - min a 39)) (by omega)
        generalize (σ + 40 - a + (i + (a - min a 39))) % 40 = y at *
        unfold PK
        simp (disch := omega) only [am_up_ne, up_n, am_uL_ne, uL_n]
        exact ⟨⟨q1, q2, q3, q4⟩, q5⟩
      · have hj : (σ % 40 + 1 + 40 - (min a 39 + 1) + i) % 40 = σ % 40 := by omega
        rw [hj, pK_f c, pW_f c]
        generalize σ % 40 = y at *
        refine ⟨⟨?_, ?_, ?_, ?_⟩, ?_⟩
        · rw [am_uL_ne (by omega), uL_s rfl, hP5]
        · rw [uL_s rfl, hP4]
        · rw [am_up_ne (by omega), am_up_ne (by omega), am_up_ne (by omega), am_up_ne (by omega), up_s rfl, hb]
        · rw [am_up_ne (by omega), am_up_ne (by omega), am_up_ne (by omega), up_s rfl]
        · rw [am_up_ne (by omega), am_up_ne (by omega), up_s rfl]
  · exact ag_up (ag_up (ag_up (ag_up (ag_up (ag_up ag_rf rfl) (sPa_48 hs)) (sPa_49 hs)) sPa_50) rfl) rfl
  · refine ⟨?_, ?_⟩
    · rw [am_uL_ne (by omega), uL_n (by omega)]
    · rw [uL_n (by omega), am_uL_ne (by omega)]
theorem keep_L0 {g : Nat → Nat → Nat} {I J : am_I} {L M : am_L} {a : Nat} {K : Nat → Nat → Nat → Nat} {kw l : Nat → Nat} (hg : GW g) (h : CS I g) (hp : GP g a K kw l) (hP : CP I L (g 0 0) a K kw l) (n d : Nat) (hn : 8 < n) (e : fX6_keepAct_road_logbook n d I L = some (J, M)) : M 0 = L 0 := by
  obtain ⟨I', L', w1, _, _, _, w5⟩ := pc_keepA hg h hp hP n d hn
  rw [w1] at e
  injection e with e
  injection e with e1 e2
  rw [← e2]
  exact w5
theorem pm_keep {g : Nat → Nat → Nat} {I : am_I} {a : Nat} {K : Nat → Nat → Nat → Nat} {kw l : Nat → Nat} (hg : GW g) (h : MS I g) (hp : GP g a K kw l) (hP : MP I (g 0 0) a K kw l) (n d : Nat) (hn : 10000 < n) (L : am_L) : ∃ I', fX12_keep n d I L = some (I', L) ∧ MP I' (g 0 0) (min a 39 + 1) (pK a K g) (pW a kw) l ∧ am_ag s18 I I' := by
  have gm := hg.1
  have ha := hp.1
  obtain ⟨p1, p2, p3⟩ := hP
  obtain ⟨hm, hgv, hp', ha', hd, t0, t1, t2, t3, t4, t5, o0, o1, r0, r1, r2⟩ := h
  by_cases c : a = 40
  · subst c
    obtain ⟨I1, w1, w2, w3⟩ := pm_keepS n d L I rfl 8034 0 n I (by omega) (by omega) p1 (fun y hy => by omega) (fun y _ => rfl) ag_rf
    obtain ⟨I2, w4, w5, w6, w7⟩ := pm_keepL n d L 39 (by omega) (am_up I1 0 30 (nI 39)) 206 0 n (am_up I1 0 30 (nI 39)) (by omega) (by omega) (up_s rfl) rfl (fun y hy => by omega) (fun y _ => rfl) ag_rf
    have e17 : (am_up I1 0 30 (nI 39)) 17 = I 17 := by
      rw [am_up_ne (by omega)]
      exact funext (fun j => w3 17 j rfl)
    refine ⟨am_up I2 0 30 (nI (39 + 1)), ?_, ⟨up_s rfl, fun i hi => ?_, ?_⟩, ag_up (ag_tr (ag_up w3 rfl) w7) rfl⟩
    · have w4' : fX12_keep_b52 n d (am_up I1 0 30 (nI 39)) L = some (am_up I2 0 30 (nI (39 + 1)), L) := w4
      rw [← w4', ← w1]
      simp (disch := omega) only [fX12_keep, zz_lt, li_0, li_1, li_2, li_3, li_4, li_5, li_6, li_7, li_8, li_9, li_10, li_11, li_12, li_15, li_16, li_20, li_21, li_24, li_25, li_26, li_32, li_33, li_38, li_40, li_41, li_42, li_43, li_45, li_47, li_48, li_57, li_58, li_59, li_60, li_61, li_62, li_63, li_74, li_75, li_84, li_91, li_93, li_98, li_100, li_103, li_105, li_107, li_109, li_110, li_111, li_112, li_115, li_118, li_119, li_120, li_121, li_124, li_140, li_180, li_206, li_240, li_255, li_420, li_520, li_999, li_1000, li_1771, li_8240, li_9999, li_88200, li_1000000, li_2097151, li_31, nI_add, pk_mul, zz_sub, zz_an, nI_clamp, zz_leT, zz_leF, zz_ltT, zz_ltF, zz_eqF, zz_eqT, zz_m1, zz_m2, zz_m3, zz_m4, zz_m5, zz_m6, zz_ck, zz_bl, zz_b3, zz_b2, zz_shl, zz_bt0, zz_bt1, pk_div, Nat.zero_add, Nat.add_zero, if_true, if_false, reduceIte, Nat.mul_zero, zz_or0, zz_inT, zz_inF, p1]
    · by_cases c2 : i < min 40 39
      · rw [pK_t c2, pW_t c2]
        refine SN_eq gm (p2 (i + 1) (by omega)) (fun j hj => ?_)
        show am_up I2 0 30 (nI (39 + 1)) 18 (206 * i + j) = I 18 (206 * (i + 1) + j)
        rw [am_up_ne (by omega), w6 _ (by omega), am_up_ne (by omega), w2 _ (by omega)]
        congr 1
        omega
      · have e : i = 39 := by omega
        subst e
        rw [pK_f c2, pW_f c2]
        refine SN_eq gm (f := I 17) ⟨r0, r1, r2, hd, p3⟩ (fun j hj => ?_)
        show am_up I2 0 30 (nI (39 + 1)) 18 (206 * 39 + j) = I 17 j
        rw [am_up_ne (by omega), w5 j hj, e17]
    · rw [pW_f (by omega)]
      refine LG_eq p3 (fun j _ _ => ?_)
      rw [am_up_ne (by omega), w7 17 j rfl, e17]
  · have m1 : min a 39 = a := by omega
    obtain ⟨I2, w4, w5, w6, w7⟩ := pm_keepL n d L a (by omega) I 206 0 n I (by omega) (by omega) p1 rfl (fun y hy => by omega) (fun y _ => rfl) ag_rf
    refine ⟨am_up I2 0 30 (nI (a + 1)), ?_, ⟨by rw [up_s rfl, m1], fun i hi => ?_, ?_⟩, ag_up w7 rfl⟩
    · have w4' : fX12_keep_b52 n d I L = some (am_up I2 0 30 (nI (a + 1)), L) := w4
      rw [← w4']
      simp (disch := omega) only [fX12_keep, zz_lt, li_0, li_1, li_2, li_3, li_4, li_5, li_6, li_7, li_8, li_9, li_10, li_11, li_12, li_15, li_16, li_20, li_21, li_24, li_25, li_26, li_32, li_33, li_38, li_40, li_41, li_42, li_43, li_45, li_47, li_48, li_57, li_58, li_59, li_60, li_61, li_62, li_63, li_74, li_75, li_84, li_91, li_93, li_98, li_100, li_103, li_105, li_107, li_109, li_110, li_111, li_112, li_115, li_118, li_119, li_120, li_121, li_124, li_140, li_180, li_206, li_240, li_255, li_420, li_520, li_999, li_1000, li_1771, li_8240, li_9999, li_88200, li_1000000, li_2097151, li_31, nI_add, pk_mul, zz_sub, zz_an, nI_clamp, zz_leT, zz_leF, zz_ltT, zz_ltF, zz_eqF, zz_eqT, zz_m1, zz_m2, zz_m3, zz_m4, zz_m5, zz_m6, zz_ck, zz_bl, zz_b3, zz_b2, zz_shl, zz_bt0, zz_bt1, pk_div, Nat.zero_add, Nat.add_zero, if_true, if_false, reduceIte, Nat.mul_zero, zz_or0, zz_inT, zz_inF, p1]
    · by_cases c2 : i < min a 39
      · rw [pK_t c2, pW_t c2, show a - min a 39 = 0 by omega, Nat.add_zero]
        refine SN_eq gm (p2 i (by omega)) (fun j hj => ?_)
        show am_up I2 0 30 (nI (a + 1)) 18 (206 * i + j) = I 18 (206 * i + j)
        rw [am_up_ne (by omega), w6 _ (by omega)]
      · have e : i = a := by omega
        subst e
        rw [pK_f c2, pW_f c2]
        refine SN_eq gm (f := I 17) ⟨r0, r1, r2, hd, p3⟩ (fun j hj => ?_)
        show am_up I2 0 30 (nI (i + 1)) 18 (206 * i + j) = I 17 j
        rw [am_up_ne (by omega), w5 j hj]
    · rw [pW_f (by omega)]
      refine LG_eq p3 (fun j _ _ => ?_)
      rw [am_up_ne (by omega), w7 17 j rfl]
/-- a line more -/
theorem zn_p1 (y : Nat) : zn y + nI 1 = nI y := by
  rcases y with _ | y
  · rfl
  · rw [en_s, nI_add]
theorem zn_p2 (c z : Nat) : nI c + zn z + nI 1 = nI (c + z) := by rw [Int32.add_assoc, zn_p1, nI_add]
def sLi (k j : Nat) : Bool := (k == 42 && j == 3) || k == 43
theorem sLi_43 {j : Nat} : sLi 43 j = true := by simp [sLi]
theorem pc_add {I : am_I} {L : am_L} {μ a : Nat} {K : Nat → Nat → Nat → Nat} {kw l : Nat → Nat} (n d : Nat) (hw : kw a ≤ 1000000) (h0 : 0 < a) (h4 : kw a < kw 0 + 360) (hP : CP I L μ a K kw l) {x y z : Nat} (hx : x ≤ 3) (hy : y ≤ 9) (hz : z ≤ 9) : ∃ I', fX5_add n d (nI x) (zn y) (zn z) I L = some (I', L) ∧ CP I' L μ a K (un kw a (kw a + 1)) (un l (kw a) (100 * x + 10 * y + z)) ∧ am_ag sLi I I' := by
  obtain ⟨p1, p2, p3, σ, p4, p5, p6⟩ := hP
  have fm := fun I L => J_fm n d (kw a) 420 I L (by omega) (by omega) (by omega)
  have hm : kw a % 420 < 420 := Nat.mod_lt _ (by omega)
  refine ⟨am_up (am_up I 43 (kw a % 420) (nI (x * 100 + y * 10 + z))) 42 3 (nI (kw a + 1)), ?_, ?_, ag_up (ag_up ag_rf sLi_43) rfl⟩
  · simp (disch := omega) only [fX5_add, zz_lt, li_0, li_1, li_2, li_3, li_4, li_5, li_6, li_7, li_8, li_9, li_10, li_11, li_12, li_15, li_16, li_20, li_21, li_24, li_25, li_26, li_32, li_33, li_38, li_40, li_41, li_42, li_43, li_45, li_47, li_48, li_57, li_58, li_59, li_60, li_61, li_62, li_63, li_74, li_75, li_84, li_91, li_93, li_98, li_100, li_103, li_105, li_107, li_109, li_110, li_111, li_112, li_115, li_118, li_119, li_120, li_121, li_124, li_140, li_180, li_206, li_240, li_255, li_420, li_520, li_999, li_1000, li_1771, li_8240, li_9999, li_88200, li_1000000, li_2097151, li_31, nI_add, pk_mul, zz_sub, zz_an, nI_clamp, zz_leT, zz_leF, zz_ltT, zz_ltF, zz_eqF, zz_eqT, zz_m1, zz_m2, zz_m3, zz_m4, zz_m5, zz_m6, zz_ck, zz_bl, zz_b3, zz_b2, zz_shl, zz_bt0, zz_bt1, pk_div, Nat.zero_add, Nat.add_zero, if_true, if_false, reduceIte, Nat.mul_zero, zz_or0, zz_inT, zz_inF, p2, fm, zn_p1, zn_p2, am_up_ne]
  · have ez : ∀ i, i < a → un kw a (kw a + 1) i = kw i := fun i hi => if_neg (by omega)
    have ea : un kw a (kw a + 1) a = kw a + 1 := if_pos rfl
    refine ⟨?_, ?_, ?_, σ, p4, ?_, ?_⟩
    · rw [am_up_ne (by omega), am_up_ne (by omega)]; exact p1
    · rw [up_s rfl, ea]
    · intro t g1 g2
      rw [ez 0 h0] at g1
      rw [ea] at g2
      rw [am_up_ne (by omega)]
      by_cases e : t = kw a
      · subst e
        rw [up_s rfl]
        unfold un
        rw [if_pos rfl]
        congr 1
        omega
      · rw [up_n (by omega), p3 t g1 (by omega)]
        unfold un
        rw [if_neg e]
    · rw [am_up_ne (by omega), am_up_ne (by omega)]; exact p5
    · intro i hi
      rw [ez i hi]
      unfold PK
      simp (disch := omega) only [am_up_ne]
      exact p6 i hi
theorem CP_eq {I I' : am_I} {L L' : am_L} {μ a : Nat} {K : Nat → Nat → Nat → Nat} {kw l : Nat → Nat} (h : CP I L μ a K kw l) (ha : a ≤ 40) (e1 : I' 45 5 = I 45 5) (e2 : I' 45 6 = I 45 6) (e3 : I' 42 3 = I 42 3) (e4 : I' 43 = I 43) (e5 : ∀ j, j < 40 → I' 48 j = I 48 j ∧ I' 49 j = I 49 j ∧ I' 50 j = I 50 j ∧ L' 46 j = L 46 j ∧ L' 47 j = L 47 j) : CP I' L' μ a K kw l := by
  obtain ⟨p1, p2, p3, σ, p4, p5, p6⟩ := h
  refine ⟨e2.trans p1, e3.trans p2, fun t g1 g2 => by rw [e4]; exact p3 t g1 g2, σ, p4, e1.trans p5, fun i hi => ?_⟩
  obtain ⟨⟨q1, q2, q3, q4⟩, q5⟩ := p6 i hi
  obtain ⟨f1, f2, f3, f4, f5⟩ := e5 ((σ + 40 - a + i) % 40) (Nat.mod_lt _ (by omega))
  exact ⟨⟨f4.trans q1, f5.trans q2, f1.trans q3, f2.trans q4⟩, f3.trans q5⟩
theorem MP_eq {I I' : am_I} {μ a : Nat} {K : Nat → Nat → Nat → Nat} {kw l : Nat → Nat} (h : MP I μ a K kw l) (e1 : I' 0 30 = I 0 30) (e2 : I' 18 = I 18) (e3 : ∀ j, 25 ≤ j → I' 17 j = I 17 j) : MP I' μ a K kw l := by
  obtain ⟨p1, p2, p3⟩ := h
  exact ⟨e1.trans p1, fun i hi => by rw [e2]; exact p2 i hi, LG_eq p3 (fun j h _ => e3 j h)⟩
theorem pm_noteP (n d : Nat) (hn : 200 < n) {I : am_I} (L : am_L) {μ a : Nat} {K : Nat → Nat → Nat → Nat} {kw l : Nat → Nat} (h0 : 0 < a) (hk : ∀ i, i < a → kw i ≤ kw a) (hP : MP I μ a K kw l) {x y z : Nat} (hx : x ≤ 3) (hy : y ≤ 9) (hz : z ≤ 9) : ∃ I', fX12_note n d (nI x) (zn y) (zn z) I L = some (I', L) ∧ MP I' μ a K (un kw a (kw a + 1)) (un l (kw a) (100 * x + 10 * y + z)) ∧ am_ag sN I I' := by
  obtain ⟨p1, p2, p3⟩ := hP
  obtain ⟨I', w1, w2, w3⟩ := pm_note n d hn L p3 hx hy hz
  have ez : ∀ i, i < a → un kw a (kw a + 1) i = kw i := fun i hi => if_neg (by omega)
  have ea : un kw a (kw a + 1) a = kw a + 1 := if_pos rfl
  refine ⟨I', w1, ⟨(w3 0 30 rfl).trans p1, fun i hi => ?_, by rw [ea]; exact w2⟩, w3⟩
  rw [ez i hi, show I' 18 = I 18 from funext (fun j => w3 18 j rfl)]
  exact SN_l (p2 i hi) (fun j hj => if_neg (by have := hk i hi; omega))
/-- the road as it was -/
def gs (g s : Nat → Nat → Nat) : Nat → Nat → Nat := fun p q => if p = 9 ∨ p = 10 ∨ p = 11 ∨ (p = 0 ∧ q = 4) then s p q else g p q
theorem gs_sa (g s : Nat → Nat → Nat) : SA g (gs g s) := by
  refine ⟨fun p h1 h2 h3 h4 => ?_, fun q hq => ?_⟩
  · funext q
    unfold gs
    rw [if_neg (by omega)]
  · unfold gs
    rw [if_neg (by omega)]
theorem gs_9 (g s : Nat → Nat → Nat) (m : Nat) : gs g s 9 m = s 9 m := by unfold gs; rw [if_pos (by omega)]
theorem gs_10 (g s : Nat → Nat → Nat) (m : Nat) : gs g s 10 m = s 10 m := by unfold gs; rw [if_pos (by omega)]
theorem gs_11 (g s : Nat → Nat → Nat) (m : Nat) : gs g s 11 m = s 11 m := by unfold gs; rw [if_pos (by omega)]
theorem gs_d (g s : Nat → Nat → Nat) : gs g s 0 4 = s 0 4 := by unfold gs; rw [if_pos (by omega)]
theorem gs_rv {g s : Nat → Nat → Nat} (h : RV g s) : RV g (gs g s) := by
  refine ⟨fun m hm => ?_, by rw [gs_d]; exact h.2⟩
  rw [gs_9, gs_10, gs_11]
  exact h.1 m hm
theorem gs_pot (g s : Nat → Nat → Nat) (μ : Nat) : pot (gs g s) μ = pot s μ := by
  unfold pot
  rw [gs_d, sm_ext μ (fun m _ => gs_11 g s m)]
def sRd (k j : Nat) : Bool := scH k j || k == 40 || k == 41 || (k == 39 && (j == 4 || j == 5))
theorem sRd_40 {j : Nat} : sRd 40 j = true := by simp [sRd]
theorem sRd_41 {j : Nat} : sRd 41 j = true := by simp [sRd]
theorem ag_Rd {I I' : am_I} (a : am_ag scH I I') : am_ag sRd I I' := ag_wk a (fun k j h => by
  unfold sRd at h
  cases e : scH k j
  · rfl
  · rw [e] at h; simp at h)
def s4041 (k j : Nat) : Bool := match k with | 40 => true | 41 => true | _ => false
theorem pc_unpL {g s : Nat → Nat → Nat} (hg : GW g) (rv : RV g s) (n d : Nat) (L : am_L) (a5 a6 : Int32) (I0 : am_I) (hm : I0 3 0 = nI (g 0 0)) : ∀ (j i F : Nat) (I : am_I), i + j = g 0 0 → j < F → (∀ k, k < i → I 40 k = nI (s 9 k) ∧ I 41 k = nI (s 10 k)) → am_ag s4041 I0 I → ∃ I', fX7_unpack_b3 n d F (lN (pkd 5 (s 9) (g 0 0))) (lN (pkd 4 (s 10) (g 0 0))) a5 a6 (nI i) I L = am_b2 (fX7_lookAtAll n d (am_up (am_up I' 39 4 a5) 39 5 a6) L) (fun I3 L3 => some (I3, L3)) ∧ (∀ k, k < g 0 0 → I' 40 k = nI (s 9 k) ∧ I' 41 k = nI (s 10 k)) ∧ am_ag s4041 I0 I'
  | _, _, 0, _, _, f, _, _ => by omega
  | 0, i, F + 1, I, e, f, h1, h2 => by
    have b := hg.1
    have hm' := (h2 3 0 rfl).trans hm
    have e1 : i = g 0 0 := by omega
    subst e1
    exact ⟨I, by simp (disch := omega) only [fX7_unpack_b3, fX7_unpack_b3w, zz_lt, li_0, li_1, li_2, li_3, li_4, li_5, li_6, li_7, li_8, li_9, li_10, li_11, li_12, li_15, li_16, li_20, li_21, li_24, li_25, li_26, li_32, li_33, li_38, li_40, li_41, li_42, li_43, li_45, li_47, li_48, li_57, li_58, li_59, li_60, li_61, li_62, li_63, li_74, li_75, li_84, li_91, li_93, li_98, li_100, li_103, li_105, li_107, li_109, li_110, li_111, li_112, li_115, li_118, li_119, li_120, li_121, li_124, li_140, li_180, li_206, li_240, li_255, li_420, li_520, li_999, li_1000, li_1771, li_8240, li_9999, li_88200, li_1000000, li_2097151, li_31, nI_add, pk_mul, zz_sub, zz_an, nI_clamp, zz_leT, zz_leF, zz_ltT, zz_ltF, zz_eqF, zz_eqT, zz_m1, zz_m2, zz_m3, zz_m4, zz_m5, zz_m6, zz_ck, zz_bl, zz_b3, zz_b2, zz_shl, zz_bt0, zz_bt1, pk_div, Nat.zero_add, Nat.add_zero, if_true, if_false, reduceIte, Nat.mul_zero, zz_or0, zz_inT, zz_inF, hm'], h1, h2⟩
  | j + 1, i, F + 1, I, e, f, h1, h2 => by
    have b := hg.1
    have hm' := (h2 3 0 rfl).trans hm
    have i1 : i < g 0 0 := by omega
    have l5 : ∀ m, m < g 0 0 → s 9 m < 2 ^ 5 := fun m hm => by have := rv.1 m hm; omega
    have l4 : ∀ m, m < g 0 0 → s 10 m < 2 ^ 4 := fun m hm => by have := rv.1 m hm; have := gRest_le hg (s 9 m); omega
    have u5 : ((lN (pkd 5 (s 9) (g 0 0)) >>> ((nI (i * 5)).toInt64 &&& 63)).toInt32 &&& nI 31) = nI (s 9 i) := by
      rw [lk_un (b := 5) (by omega) (Nat.lt_of_lt_of_le (pkd_lt _ l5) (Nat.pow_le_pow_right (by decide) (by omega))) (by omega) rfl, pkd_dv _ l5 i i1]
    have u4 : ((lN (pkd 4 (s 10) (g 0 0)) >>> ((nI (i * 4)).toInt64 &&& 63)).toInt32 &&& nI 15) = nI (s 10 i) := by
      rw [lk_un (b := 4) (by omega) (Nat.lt_of_lt_of_le (pkd_lt _ l4) (Nat.pow_le_pow_right (by decide) (by omega))) (by omega) rfl, pkd_dv _ l4 i i1]
    obtain ⟨I', w1, w2⟩ := pc_unpL hg rv n d L a5 a6 I0 hm j (i + 1) F (am_up (am_up I 40 i (nI (s 9 i))) 41 i (nI (s 10 i))) (by omega) (by omega) (fun k hk => by
      by_cases c : k = i
      · subst c
        exact ⟨by rw [am_up_ne (by omega), up_s rfl], up_s rfl⟩
      · have := h1 k (by omega)
        exact ⟨by rw [am_up_ne (by omega), up_n c]; exact this.1, by rw [up_n c, am_up_ne (by omega)]; exact this.2⟩) (ag_up (ag_up h2 rfl) rfl)
    refine ⟨I', ?_, w2⟩
    rw [← w1]
    simp (disch := omega) only [fX7_unpack_b3, fX7_unpack_b3w, zz_lt, li_0, li_1, li_2, li_3, li_4, li_5, li_6, li_7, li_8, li_9, li_10, li_11, li_12, li_15, li_16, li_20, li_21, li_24, li_25, li_26, li_32, li_33, li_38, li_40, li_41, li_42, li_43, li_45, li_47, li_48, li_57, li_58, li_59, li_60, li_61, li_62, li_63, li_74, li_75, li_84, li_91, li_93, li_98, li_100, li_103, li_105, li_107, li_109, li_110, li_111, li_112, li_115, li_118, li_119, li_120, li_121, li_124, li_140, li_180, li_206, li_240, li_255, li_420, li_520, li_999, li_1000, li_1771, li_8240, li_9999, li_88200, li_1000000, li_2097151, li_31, nI_add, pk_mul, zz_sub, zz_an, nI_clamp, zz_leT, zz_leF, zz_ltT, zz_ltF, zz_eqF, zz_eqT, zz_m1, zz_m2, zz_m3, zz_m4, zz_m5, zz_m6, zz_ck, zz_bl, zz_b3, zz_b2, zz_shl, zz_bt0, zz_bt1, pk_div, Nat.zero_add, Nat.add_zero, if_true, if_false, reduceIte, Nat.mul_zero, zz_or0, zz_inT, zz_inF, hm', u5, u4]
theorem pc_unpack {g s : Nat → Nat → Nat} {W : Nat → (Nat → Nat) → Int32} {q : Nat → Nat} (hg : GW g) (hl : GL q) (rv : RV g s) (n d : Nat) (hn : 2000 < n) {I : am_I} (h : CS I g) (hL : CL I W q) (L : am_L) (h2 : ∀ k, g 0 0 ≤ k → k < 32 → bt (I 39 6) k = false) : ∃ I', fX7_unpack n d (lN (pkd 5 (s 9) (g 0 0))) (lN (pkd 4 (s 10) (g 0 0))) (am_bits (fun m => decide (s 11 m = 1)) (g 0 0)) (nI (s 0 4)) I L = some (I', L) ∧ CS I' (gs g s) ∧ CL I' W q ∧ CH I' W q (gs g s) ∧ am_ag sRd I I' := by
  have b := hg.1
  obtain ⟨I1, w1, w2, w3⟩ := pc_unpL hg rv n d L (am_bits (fun m => decide (s 11 m = 1)) (g 0 0)) (nI (s 0 4)) I h.1 (g 0 0) 0 n I (by omega) (by omega) (fun k hk => by omega) ag_rf
  have hg' : GW (gs g s) := GW_mk hg (gs_sa g s) (gs_rv rv)
  have c1 : CS (am_up (am_up I1 39 4 (am_bits (fun m => decide (s 11 m = 1)) (g 0 0))) 39 5 (nI (s 0 4))) (gs g s) := by
    refine CS_mk h (gs_sa g s) (fun k k1 k2 => ?_) ?_ (fun m hm => ?_) (fun m hm => ?_) ?_
    · rw [am_up_ne (by omega), am_up_ne (by omega)]
      exact funext (fun j => w3 k j (by unfold s4041; split <;> first | omega | rfl))
    · rw [up_s rfl, gs_d]
    · rw [am_up_ne (by omega), am_up_ne (by omega), gs_9]; exact (w2 m hm).1
    · rw [am_up_ne (by omega), am_up_ne (by omega), gs_10]; exact (w2 m hm).2
    · rw [up_n (by omega), up_s rfl]
      exact bits_ext (fun i _ => by rw [gs_11])
  have c2 : CL (am_up (am_up I1 39 4 (am_bits (fun m => decide (s 11 m = 1)) (g 0 0))) 39 5 (nI (s 0 4))) W q := CL_up hl hL (fun k k1 k2 => by
    rw [am_up_ne (by omega), am_up_ne (by omega)]
    exact funext (fun j => w3 k j (by unfold s4041; split <;> first | omega | rfl)))
  have z0 : gs g s 0 0 = g 0 0 := (gs_sa g s).2 0 (by omega)
  obtain ⟨I2, w4, w5, w6⟩ := pc_lookAll hg' hl n d hn c1 c2 L (fun k hk hk2 => by
    rw [up_n (by omega), up_n (by omega), w3 39 6 rfl]
    exact h2 k (by rw [← z0]; exact hk) hk2)
  refine ⟨I2, ?_, CS_keepH c1 w5, CL_keep hl c2 w5, w6, ag_tr (ag_up (ag_up (ag_wk w3 (fun k j e => ?_)) rfl) rfl) (ag_Rd w5)⟩
  · show fX7_unpack_b3 n d n _ _ _ _ (nI 0) I L = _
    rw [w1, w4]
    rfl
  · unfold s4041
    split
    · rw [sRd_40] at e; cases e
    · rw [sRd_41] at e; cases e
    · rfl
