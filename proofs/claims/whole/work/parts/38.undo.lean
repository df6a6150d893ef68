/-! PURE: undo, image, back, log, count. -/
theorem J_fmU (n d : Nat) {σ : Nat} (I : am_I) (L : am_L) (h : σ ≤ 40) : fJ9_floorMod_7cf53 n d (nI σ - nI 1) (nI 40) I L = some (nI ((σ + 39) % 40), I, L) := by
  rcases σ with _ | σ
  · exact J_fm1 n d I L
  · rw [zz_sub (by omega), J_fm n d _ _ I L (by omega) (by omega) (by omega)]
    congr 3
    omega
def s17 (k j : Nat) : Bool := match k with | 17 => true | _ => false
theorem pm_undoL (n d : Nat) (L : am_L) (a : Nat) (ha : a < 40) (I0 : am_I) (h0 : I0 0 30 = nI a) : ∀ (j k F : Nat) (I : am_I), k + j = 206 → j < F → (∀ y, y < k → I 17 y = I0 18 (206 * a + y)) → am_ag s17 I0 I → ∃ I', fX12_undo_b21 n d F (nI k) I L = some (nI a, I', L) ∧ (∀ y, y < 206 → I' 17 y = I0 18 (206 * a + y)) ∧ am_ag s17 I0 I'
  | _, _, 0, _, _, f, _, _ => by omega
  | 0, k, F + 1, I, e, f, h3, h5 => by
    have h1 := (h5 0 30 rfl).trans h0
    have e1 : k = 206 := by omega
    subst e1
    exact ⟨I, by simp (disch := omega) only [fX12_undo_b21, fX12_undo_b21w, zz_lt, li_0, li_1, li_2, li_3, li_4, li_5, li_6, li_7, li_8, li_9, li_10, li_11, li_12, li_15, li_16, li_20, li_21, li_24, li_25, li_26, li_32, li_33, li_38, li_40, li_41, li_42, li_43, li_45, li_47, li_48, li_57, li_58, li_59, li_60, li_61, li_62, li_63, li_74, li_75, li_84, li_91, li_93, li_98, li_100, li_103, li_105, li_107, li_109, li_110, li_111, li_112, li_115, li_118, li_119, li_120, li_121, li_124, li_140, li_180, li_206, li_240, li_255, li_420, li_520, li_999, li_1000, li_1771, li_8240, li_9999, li_88200, li_1000000, li_2097151, li_31, nI_add, pk_mul, zz_sub, zz_an, nI_clamp, zz_leT, zz_leF, zz_ltT, zz_ltF, zz_eqF, zz_eqT, zz_m1, zz_m2, zz_m3, zz_m4, zz_m5, zz_m6, zz_ck, zz_bl, zz_b3, zz_b2, zz_shl, zz_bt0, zz_bt1, pk_div, Nat.zero_add, Nat.add_zero, if_true, if_false, reduceIte, Nat.mul_zero, zz_or0, zz_inT, zz_inF, h1], h3, h5⟩
  | j + 1, k, F + 1, I, e, f, h3, h5 => by
    have h1 := (h5 0 30 rfl).trans h0
    have h18 : I 18 = I0 18 := funext (fun y => h5 18 y rfl)
    obtain ⟨I', w1, w2⟩ := pm_undoL n d L a ha I0 h0 j (k + 1) F (am_up I 17 k (I0 18 (206 * a + k))) (by omega) (by omega) (fun y hy => by
      by_cases q : y = k
      · subst q; rw [up_s rfl]
      · rw [up_n q]; exact h3 y (by omega)) (ag_up h5 rfl)
    refine ⟨I', ?_, w2⟩
    rw [← w1]
    simp (disch := omega) only [fX12_undo_b21, fX12_undo_b21w, zz_lt, li_0, li_1, li_2, li_3, li_4, li_5, li_6, li_7, li_8, li_9, li_10, li_11, li_12, li_15, li_16, li_20, li_21, li_24, li_25, li_26, li_32, li_33, li_38, li_40, li_41, li_42, li_43, li_45, li_47, li_48, li_57, li_58, li_59, li_60, li_61, li_62, li_63, li_74, li_75, li_84, li_91, li_93, li_98, li_100, li_103, li_105, li_107, li_109, li_110, li_111, li_112, li_115, li_118, li_119, li_120, li_121, li_124, li_140, li_180, li_206, li_240, li_255, li_420, li_520, li_999, li_1000, li_1771, li_8240, li_9999, li_88200, li_1000000, li_2097151, li_31, nI_add, pk_mul, zz_sub, zz_an, nI_clamp, zz_leT, zz_leF, zz_ltT, zz_ltF, zz_eqF, zz_eqT, zz_m1, zz_m2, zz_m3, zz_m4, zz_m5, zz_m6, zz_ck, zz_bl, zz_b3, zz_b2, zz_shl, zz_bt0, zz_bt1, pk_div, Nat.zero_add, Nat.add_zero, if_true, if_false, reduceIte, Nat.mul_zero, zz_or0, zz_inT, zz_inF, h1, h18]
theorem MS_sn {I I' : am_I} {g s : Nat → Nat → Nat} {w : Nat} {l : Nat → Nat} {f : Nat → Int32} (hμ : g 0 0 ≤ 8) (h : MS I g) (hs : SN f (g 0 0) s w l) (e : ∀ j, j < 206 → I' 17 j = f j) (e25 : I' 0 25 = I 0 25) (e26 : I' 0 26 = I 0 26) (e14 : ∀ k, 14 ≤ k → k ≤ 16 → I' k = I k) : MS I' (gs g s) := by
  obtain ⟨s1, s2, s3, s4, s5⟩ := hs
  exact MS_mk h (gs_sa g s) e25 e26 e14 (by rw [e _ (by omega), gs_d]; exact s4) (fun m hm => by rw [e _ (by omega), gs_9]; exact s1 m hm) (fun m hm => by rw [e _ (by omega), gs_10]; exact s2 m hm) (fun m hm => by rw [e _ (by omega), gs_11]; exact s3 m hm)
theorem sDC_rd {I I' : am_I} (w : am_ag sRd I I') : am_ag sDC I I' := ag_rdC w
theorem op_undo {IC : am_I} {LC : am_L} {IM : am_I} {W : Nat → (Nat → Nat) → Int32} {q : Nat → Nat} {g : Nat → Nat → Nat} {a : Nat} {K : Nat → Nat → Nat → Nat} {kw l : Nat → Nat} (h : DY IC LC IM W q g a K kw l) (LM : am_L) : am_act (fX11_undo am_N 1900 IC LC) (fX12_undo am_N 1900 IM LM) IC LC IM W q g := by
  obtain ⟨h1, hl, h3, h4, h5, h6, h7, h8, h9, h10⟩ := id h
  have gm := h1.1
  have aa := h8.1
  obtain ⟨p1, p2, p3, σ, p4, p5, p6⟩ := id h9
  obtain ⟨m1, m2, m3⟩ := id h10
  rcases a with _ | a
  · refine act_no (r := -nI 1) (LM := LM) h ag_rf ?_ ?_
    · simp (disch := omega) only [fX11_undo, zz_lt, li_0, li_1, li_2, li_3, li_4, li_5, li_6, li_7, li_8, li_9, li_10, li_11, li_12, li_15, li_16, li_20, li_21, li_24, li_25, li_26, li_32, li_33, li_38, li_40, li_41, li_42, li_43, li_45, li_47, li_48, li_57, li_58, li_59, li_60, li_61, li_62, li_63, li_74, li_75, li_84, li_91, li_93, li_98, li_100, li_103, li_105, li_107, li_109, li_110, li_111, li_112, li_115, li_118, li_119, li_120, li_121, li_124, li_140, li_180, li_206, li_240, li_255, li_420, li_520, li_999, li_1000, li_1771, li_8240, li_9999, li_88200, li_1000000, li_2097151, li_31, nI_add, pk_mul, zz_sub, zz_an, nI_clamp, zz_leT, zz_leF, zz_ltT, zz_ltF, zz_eqF, zz_eqT, zz_m1, zz_m2, zz_m3, zz_m4, zz_m5, zz_m6, zz_ck, zz_bl, zz_b3, zz_b2, zz_shl, zz_bt0, zz_bt1, pk_div, Nat.zero_add, Nat.add_zero, if_true, if_false, reduceIte, Nat.mul_zero, zz_or0, zz_inT, zz_inF, p1]
    · simp (disch := omega) only [fX12_undo, zz_lt, li_0, li_1, li_2, li_3, li_4, li_5, li_6, li_7, li_8, li_9, li_10, li_11, li_12, li_15, li_16, li_20, li_21, li_24, li_25, li_26, li_32, li_33, li_38, li_40, li_41, li_42, li_43, li_45, li_47, li_48, li_57, li_58, li_59, li_60, li_61, li_62, li_63, li_74, li_75, li_84, li_91, li_93, li_98, li_100, li_103, li_105, li_107, li_109, li_110, li_111, li_112, li_115, li_118, li_119, li_120, li_121, li_124, li_140, li_180, li_206, li_240, li_255, li_420, li_520, li_999, li_1000, li_1771, li_8240, li_9999, li_88200, li_1000000, li_2097151, li_31, nI_add, pk_mul, zz_sub, zz_an, nI_clamp, zz_leT, zz_leF, zz_ltT, zz_ltF, zz_eqF, zz_eqT, zz_m1, zz_m2, zz_m3, zz_m4, zz_m5, zz_m6, zz_ck, zz_bl, zz_b3, zz_b2, zz_shl, zz_bt0, zz_bt1, pk_div, Nat.zero_add, Nat.add_zero, if_true, if_false, reduceIte, Nat.mul_zero, zz_or0, zz_inT, zz_inF, m1]
  · obtain ⟨⟨k1, k2, k3, k4⟩, k5⟩ := p6 a (by omega)
    obtain ⟨rv, kp⟩ := h8.2.2.1 a (by omega)
    have hy : (σ + 40 - (a + 1) + a) % 40 = (σ + 39) % 40 := by congr 1; omega
    have hy2 : (σ + 39) % 40 < 40 := Nat.mod_lt _ (by omega)
    rw [hy] at k1 k2 k3 k4 k5
    have c1 : CS (am_up IC 45 5 (nI ((σ + 39) % 40))) g := by
      unfold CS at *
      simp (disch := omega) only [am_up_ne]
      exact h3
    obtain ⟨I3, w1, w2, w3, w4, w5⟩ := pc_unpack h1 hl rv am_N 1900 am_N2 c1 (CL_up hl h4 (fun k _ _ => by rw [am_up_ne (by omega)])) LC (by rw [am_up_ne (by omega)]; exact CH_hi h1 h5)
    have f45 : I3 45 5 = nI ((σ + 39) % 40) := (w5 45 5 rfl).trans (up_s rfl)
    have f456 : I3 45 6 = nI (a + 1) := ((w5 45 6 rfl).trans (up_n (by omega))).trans p1
    have f50 : ∀ j, I3 50 j = IC 50 j := fun j => (w5 50 j rfl).trans (by rw [am_up_ne (by omega)])
    have f48 : ∀ j, I3 48 j = IC 48 j := fun j => (w5 48 j rfl).trans (by rw [am_up_ne (by omega)])
    have f49 : ∀ j, I3 49 j = IC 49 j := fun j => (w5 49 j rfl).trans (by rw [am_up_ne (by omega)])
    have f43 : ∀ j, I3 43 j = IC 43 j := fun j => (w5 43 j rfl).trans (by rw [am_up_ne (by omega)])
    have z0 : gs g (K a) 0 0 = g 0 0 := (gs_sa g (K a)).2 0 (by omega)
    obtain ⟨I4, v1, v2, v3⟩ := pm_undoL am_N 1900 LM a (by omega) (am_up IM 0 30 (nI a)) (up_s rfl) 206 0 am_N (am_up IM 0 30 (nI a)) (by omega) (by unfold am_N; omega) (fun y hy => by omega) ag_rf
    have e17 : ∀ k, k ≠ 17 → k ≠ 0 → I4 k = IM k := fun k hk hk0 => by
      have : I4 k = am_up IM 0 30 (nI a) k := funext (fun j => v3 k j (by unfold s17; split <;> first | omega | rfl))
      rw [this, am_up_ne hk0]
    have sn := m2 a (by omega)
    have e17b : ∀ j, j < 206 → I4 17 j = (fun j => IM 18 (206 * a + j)) j := fun j hj => by rw [v2 j hj, am_up_ne (by omega)]
    refine ⟨nI a, am_up (am_up I3 42 3 (nI (kw a))) 45 6 (nI a), LC, I4, LM, gs g (K a), a, K, kw, l, ?_, ?_, ⟨GW_mk h1 (gs_sa g _) (gs_rv rv), hl, ?_, ?_, ?_, ?_, ?_, ?_, ?_, ?_⟩, gs_sa g _, ?_, aLD_rf, ?_⟩
    · have fm := fun I L => J_fmU am_N 1900 (σ := σ) I L p4
      have es : nI (a + 1) - nI 1 = nI a := by rw [zz_sub (by omega)]; rfl
      simp (disch := omega) only [fX11_undo, fX6_undoAct_road_logbook, zz_lt, li_0, li_1, li_2, li_3, li_4, li_5, li_6, li_7, li_8, li_9, li_10, li_11, li_12, li_15, li_16, li_20, li_21, li_24, li_25, li_26, li_32, li_33, li_38, li_40, li_41, li_42, li_43, li_45, li_47, li_48, li_57, li_58, li_59, li_60, li_61, li_62, li_63, li_74, li_75, li_84, li_91, li_93, li_98, li_100, li_103, li_105, li_107, li_109, li_110, li_111, li_112, li_115, li_118, li_119, li_120, li_121, li_124, li_140, li_180, li_206, li_240, li_255, li_420, li_520, li_999, li_1000, li_1771, li_8240, li_9999, li_88200, li_1000000, li_2097151, li_31, nI_add, pk_mul, zz_an, nI_clamp, zz_leT, zz_leF, zz_ltT, zz_ltF, zz_eqF, zz_eqT, zz_m1, zz_m2, zz_m3, zz_m4, zz_m5, zz_m6, zz_ck, zz_bl, zz_b3, zz_b2, zz_shl, zz_bt0, zz_bt1, pk_div, Nat.zero_add, Nat.add_zero, if_true, if_false, reduceIte, Nat.mul_zero, zz_or0, zz_inT, zz_inF, p1, p5, fm, up_s, up_n, am_up_ne, k1, k2, k3, k4, w1, f45, f50, k5, f456, es]
    · have es : nI (a + 1) - nI 1 = nI a := by rw [zz_sub (by omega)]; rfl
      simp (disch := omega) only [fX12_undo, zz_lt, li_0, li_1, li_2, li_3, li_4, li_5, li_6, li_7, li_8, li_9, li_10, li_11, li_12, li_15, li_16, li_20, li_21, li_24, li_25, li_26, li_32, li_33, li_38, li_40, li_41, li_42, li_43, li_45, li_47, li_48, li_57, li_58, li_59, li_60, li_61, li_62, li_63, li_74, li_75, li_84, li_91, li_93, li_98, li_100, li_103, li_105, li_107, li_109, li_110, li_111, li_112, li_115, li_118, li_119, li_120, li_121, li_124, li_140, li_180, li_206, li_240, li_255, li_420, li_520, li_999, li_1000, li_1771, li_8240, li_9999, li_88200, li_1000000, li_2097151, li_31, nI_add, pk_mul, zz_an, nI_clamp, zz_leT, zz_leF, zz_ltT, zz_ltF, zz_eqF, zz_eqT, zz_m1, zz_m2, zz_m3, zz_m4, zz_m5, zz_m6, zz_ck, zz_bl, zz_b3, zz_b2, zz_shl, zz_bt0, zz_bt1, pk_div, Nat.zero_add, Nat.add_zero, if_true, if_false, reduceIte, Nat.mul_zero, zz_or0, zz_inT, zz_inF, m1, es]
      exact v1
    · unfold CS at *
      simp (disch := omega) only [am_up_ne]
      exact w2
    · exact CL_up hl w3 (fun k _ _ => by rw [am_up_ne (by omega), am_up_ne (by omega)])
    · unfold CH
      rw [am_up_ne (by omega), am_up_ne (by omega)]
      exact w4
    · exact MS_sn gm h6 sn e17b (by rw [v3 0 25 rfl, up_n (by omega)]) (by rw [v3 0 26 rfl, up_n (by omega)]) (fun k k1 k2 => e17 k (by omega) (by omega))
    · exact ML_up h7 (by rw [v3 0 13 rfl, up_n (by omega)]) (by rw [v3 0 28 rfl, up_n (by omega)]) (fun k k1 k2 => e17 k (by omega) (by omega))
    · refine ⟨by omega, fun i hi => h8.2.1 i (by omega), fun i hi => ?_, ?_, h8.2.2.2.2⟩
      · rw [z0]; exact ⟨RV_sa (gs_sa g _) (h8.2.2.1 i (by omega)).1, (h8.2.2.1 i (by omega)).2⟩
      · rw [z0, gs_pot]; exact kp
    · rw [z0]
      refine ⟨up_s rfl, by rw [am_up_ne (by omega), up_s rfl], fun t g1 g2 => ?_, (σ + 39) % 40, by omega, ?_, fun i hi => ?_⟩
      · rw [am_up_ne (by omega), am_up_ne (by omega), f43]
        exact p3 t g1 (by have := (h8.2.1 a (by omega)).1; omega)
      · rw [up_n (by omega), am_up_ne (by omega), f45]
      · have hj : ((σ + 39) % 40 + 40 - a + i) % 40 = (σ + 40 - (a + 1) + i) % 40 := by omega
        rw [hj]
        unfold PK
        simp (disch := omega) only [am_up_ne, f48, f49, f50]
        exact p6 i (by omega)
    · rw [z0]
      refine ⟨(v3 0 30 rfl).trans (up_s rfl), fun i hi => ?_, ?_⟩
      · rw [e17 18 (by omega) (by omega)]; exact m2 i (by omega)
      · exact LG_eq sn.2.2.2.2 (fun j _ hj => e17b j hj)
    · exact ag_up (ag_up (ag_tr (ag_up ag_rf rfl) (ag_rdC w5)) rfl) rfl
    · refine ag_tr (ag_up ag_rf rfl) (ag_wk v3 (fun k j hk => ?_))
      unfold s17
      split
      · rw [sDM_17] at hk; cases hk
      · rfl
/-- the image: b is there one, s w e what it is -/
def GI (g : Nat → Nat → Nat) (b : Nat) (s : Nat → Nat → Nat) (w : Nat) (e : Nat → Nat) : Prop := b ≤ 1 ∧ (b = 1 → RV g s ∧ w ≤ 60 ∧ w ≤ pot s (g 0 0) ∧ ∀ t, e t ≤ 399)
def CI (I : am_I) (L : am_L) (μ b : Nat) (s : Nat → Nat → Nat) (w : Nat) (e : Nat → Nat) : Prop := I 45 7 = nI b ∧ (b = 1 → PK I L μ 40 s ∧ I 42 2 = nI w ∧ ∀ t, t < w → I 44 t = nI (e t))
def MI (I : am_I) (μ b : Nat) (s : Nat → Nat → Nat) (w : Nat) (e : Nat → Nat) : Prop := I 0 43 = nI b ∧ (b = 1 → SN (I 25) μ s w e)
theorem CI_keep {I I' : am_I} {L L' : am_L} {μ b : Nat} {s : Nat → Nat → Nat} {w : Nat} {e : Nat → Nat} (h : CI I L μ b s w e) (a : am_ag sDC I I') (hL : aLD L L') : CI I' L' μ b s w e := by
  refine ⟨(a 45 7 rfl).trans h.1, fun hb => ?_⟩
  obtain ⟨⟨h1, h2, h3, h4⟩, h5, h6⟩ := h.2 hb
  exact ⟨⟨hL.1.trans h1, hL.2.trans h2, (a 48 40 rfl).trans h3, (a 49 40 rfl).trans h4⟩, (a 42 2 rfl).trans h5, fun t ht => (a 44 t rfl).trans (h6 t ht)⟩
theorem MI_keep {I I' : am_I} {μ b : Nat} {s : Nat → Nat → Nat} {w : Nat} {e : Nat → Nat} (h : MI I μ b s w e) (a : am_ag sDM I I') : MI I' μ b s w e := by
  refine ⟨(a 0 43 rfl).trans h.1, fun hb => ?_⟩
  rw [show I' 25 = I 25 from funext (fun j => a 25 j rfl)]
  exact h.2 hb
theorem GI_sa {g g' : Nat → Nat → Nat} {b : Nat} {s : Nat → Nat → Nat} {w : Nat} {e : Nat → Nat} (h : GI g b s w e) (sa : SA g g') : GI g' b s w e := by
  refine ⟨h.1, fun hb => ?_⟩
  obtain ⟨h1, h2, h3, h4⟩ := h.2 hb
  rw [sa.2 0 (by omega)]
  exact ⟨RV_sa sa h1, h2, h3, h4⟩
def s25 (k j : Nat) : Bool := match k with | 25 => true | _ => false
theorem pm_imgL (n d : Nat) (L : am_L) (I0 : am_I) {x : Int32} (hx : I0 17 24 = x) : ∀ (j k F : Nat) (I : am_I), k + j = 206 → j < F → (∀ y, y < k → I 25 y = I0 17 y) → am_ag s25 I0 I → ∃ I', fX12_image_b11 n d F (nI k) I L = some (x, am_up I' 0 43 (nI 1), L) ∧ (∀ y, y < 206 → I' 25 y = I0 17 y) ∧ am_ag s25 I0 I'
  | _, _, 0, _, _, f, _, _ => by omega
  | 0, k, F + 1, I, e, f, h3, h5 => by
    have h1 := (h5 17 24 rfl).trans hx
    have e1 : k = 206 := by omega
    subst e1
    exact ⟨I, by simp (disch := omega) only [fX12_image_b11, fX12_image_b11w, zz_lt, li_0, li_1, li_2, li_3, li_4, li_5, li_6, li_7, li_8, li_9, li_10, li_11, li_12, li_15, li_16, li_20, li_21, li_24, li_25, li_26, li_32, li_33, li_38, li_40, li_41, li_42, li_43, li_45, li_47, li_48, li_57, li_58, li_59, li_60, li_61, li_62, li_63, li_74, li_75, li_84, li_91, li_93, li_98, li_100, li_103, li_105, li_107, li_109, li_110, li_111, li_112, li_115, li_118, li_119, li_120, li_121, li_124, li_140, li_180, li_206, li_240, li_255, li_420, li_520, li_999, li_1000, li_1771, li_8240, li_9999, li_88200, li_1000000, li_2097151, li_31, nI_add, pk_mul, zz_sub, zz_an, nI_clamp, zz_leT, zz_leF, zz_ltT, zz_ltF, zz_eqF, zz_eqT, zz_m1, zz_m2, zz_m3, zz_m4, zz_m5, zz_m6, zz_ck, zz_bl, zz_b3, zz_b2, zz_shl, zz_bt0, zz_bt1, pk_div, Nat.zero_add, Nat.add_zero, if_true, if_false, reduceIte, Nat.mul_zero, zz_or0, zz_inT, zz_inF, am_up_ne, h1], h3, h5⟩
  | j + 1, k, F + 1, I, e, f, h3, h5 => by
    have h17 : I 17 = I0 17 := funext (fun y => h5 17 y rfl)
    obtain ⟨I', w1, w2⟩ := pm_imgL n d L I0 hx j (k + 1) F (am_up I 25 k (I0 17 k)) (by omega) (by omega) (fun y hy => by
      by_cases q : y = k
      · subst q; rw [up_s rfl]
      · rw [up_n q]; exact h3 y (by omega)) (ag_up h5 rfl)
    refine ⟨I', ?_, w2⟩
    rw [← w1]
    simp (disch := omega) only [fX12_image_b11, fX12_image_b11w, zz_lt, li_0, li_1, li_2, li_3, li_4, li_5, li_6, li_7, li_8, li_9, li_10, li_11, li_12, li_15, li_16, li_20, li_21, li_24, li_25, li_26, li_32, li_33, li_38, li_40, li_41, li_42, li_43, li_45, li_47, li_48, li_57, li_58, li_59, li_60, li_61, li_62, li_63, li_74, li_75, li_84, li_91, li_93, li_98, li_100, li_103, li_105, li_107, li_109, li_110, li_111, li_112, li_115, li_118, li_119, li_120, li_121, li_124, li_140, li_180, li_206, li_240, li_255, li_420, li_520, li_999, li_1000, li_1771, li_8240, li_9999, li_88200, li_1000000, li_2097151, li_31, nI_add, pk_mul, zz_sub, zz_an, nI_clamp, zz_leT, zz_leF, zz_ltT, zz_ltF, zz_eqF, zz_eqT, zz_m1, zz_m2, zz_m3, zz_m4, zz_m5, zz_m6, zz_ck, zz_bl, zz_b3, zz_b2, zz_shl, zz_bt0, zz_bt1, pk_div, Nat.zero_add, Nat.add_zero, if_true, if_false, reduceIte, Nat.mul_zero, zz_or0, zz_inT, zz_inF, h17]
def s44 (k j : Nat) : Bool := match k with | 44 => true | _ => false
theorem pc_line (n d : Nat) {I : am_I} (L : am_L) {W i y : Nat} (hW : W < 100000000) (hi : i < W) (h : I 42 3 = nI W) (hy : I 43 ((W - 1 - i) % 420) = nI y) : fX5_line n d (nI i) I L = some (nI y, I, L) := by
  have fm := fun I L => J_fm n d (W - 1 - i) 420 I L (by omega) (by omega) (by omega)
  have hm : (W - 1 - i) % 420 < 420 := Nat.mod_lt _ (by omega)
  generalize hz : (W - 1 - i) % 420 = z at *
  simp (disch := omega) only [fX5_line, zz_lt, li_0, li_1, li_2, li_3, li_4, li_5, li_6, li_7, li_8, li_9, li_10, li_11, li_12, li_15, li_16, li_20, li_21, li_24, li_25, li_26, li_32, li_33, li_38, li_40, li_41, li_42, li_43, li_45, li_47, li_48, li_57, li_58, li_59, li_60, li_61, li_62, li_63, li_74, li_75, li_84, li_91, li_93, li_98, li_100, li_103, li_105, li_107, li_109, li_110, li_111, li_112, li_115, li_118, li_119, li_120, li_121, li_124, li_140, li_180, li_206, li_240, li_255, li_420, li_520, li_999, li_1000, li_1771, li_8240, li_9999, li_88200, li_1000000, li_2097151, li_31, nI_add, pk_mul, zz_sub, zz_an, nI_clamp, zz_leT, zz_leF, zz_ltT, zz_ltF, zz_eqF, zz_eqT, zz_m1, zz_m2, zz_m3, zz_m4, zz_m5, zz_m6, zz_ck, zz_bl, zz_b3, zz_b2, zz_shl, zz_bt0, zz_bt1, pk_div, Nat.zero_add, Nat.add_zero, if_true, if_false, reduceIte, Nat.mul_zero, zz_or0, zz_inT, zz_inF, h, fm, hy]
theorem pc_imgL (n d : Nat) (L : am_L) {W v : Nat} {l : Nat → Nat} (hW : W < 100000000) (hv : v = min W 60) (I0 : am_I) (h42 : I0 42 2 = nI v) (h3 : I0 42 3 = nI W) (hr : ∀ t, W ≤ t + 60 → t < W → I0 43 (t % 420) = nI (l t)) : ∀ (j i F : Nat) (I : am_I), i + j = v → j < F → (∀ y, y < i → I 44 y = nI (l (W - v + y))) → am_ag s44 I0 I → ∃ I', fX5_keepImage_b10 n d F (nI i) I L = some (I', L) ∧ (∀ y, y < v → I' 44 y = nI (l (W - v + y))) ∧ am_ag s44 I0 I'
  | _, _, 0, _, _, f, _, _ => by omega
  | 0, i, F + 1, I, e, f, g3, g5 => by
    have h1 := (g5 42 2 rfl).trans h42
    have e1 : i = v := by omega
    subst e1
    exact ⟨I, by simp (disch := omega) only [fX5_keepImage_b10, fX5_keepImage_b10w, zz_lt, li_0, li_1, li_2, li_3, li_4, li_5, li_6, li_7, li_8, li_9, li_10, li_11, li_12, li_15, li_16, li_20, li_21, li_24, li_25, li_26, li_32, li_33, li_38, li_40, li_41, li_42, li_43, li_45, li_47, li_48, li_57, li_58, li_59, li_60, li_61, li_62, li_63, li_74, li_75, li_84, li_91, li_93, li_98, li_100, li_103, li_105, li_107, li_109, li_110, li_111, li_112, li_115, li_118, li_119, li_120, li_121, li_124, li_140, li_180, li_206, li_240, li_255, li_420, li_520, li_999, li_1000, li_1771, li_8240, li_9999, li_88200, li_1000000, li_2097151, li_31, nI_add, pk_mul, zz_sub, zz_an, nI_clamp, zz_leT, zz_leF, zz_ltT, zz_ltF, zz_eqF, zz_eqT, zz_m1, zz_m2, zz_m3, zz_m4, zz_m5, zz_m6, zz_ck, zz_bl, zz_b3, zz_b2, zz_shl, zz_bt0, zz_bt1, pk_div, Nat.zero_add, Nat.add_zero, if_true, if_false, reduceIte, Nat.mul_zero, zz_or0, zz_inT, zz_inF, h1], g3, g5⟩
  | j + 1, i, F + 1, I, e, f, g3, g5 => by
    have h1 := (g5 42 2 rfl).trans h42
    have h2 := (g5 42 3 rfl).trans h3
    have ln := pc_line n d (I := I) L (W := W) (i := v - 1 - i) (y := l (W - v + i)) hW (by omega) h2 (by
      rw [g5 43 _ rfl, show W - 1 - (v - 1 - i) = W - v + i by omega]
      exact hr _ (by omega) (by omega))
    obtain ⟨I', w1, w2⟩ := pc_imgL n d L hW hv I0 h42 h3 hr j (i + 1) F (am_up I 44 i (nI (l (W - v + i)))) (by omega) (by omega) (fun y hy => by
      by_cases q : y = i
      · subst q; rw [up_s rfl]
      · rw [up_n q]; exact g3 y (by omega)) (ag_up g5 rfl)
    refine ⟨I', ?_, w2⟩
    rw [← w1]
    simp (disch := omega) only [fX5_keepImage_b10, fX5_keepImage_b10w, zz_lt, li_0, li_1, li_2, li_3, li_4, li_5, li_6, li_7, li_8, li_9, li_10, li_11, li_12, li_15, li_16, li_20, li_21, li_24, li_25, li_26, li_32, li_33, li_38, li_40, li_41, li_42, li_43, li_45, li_47, li_48, li_57, li_58, li_59, li_60, li_61, li_62, li_63, li_74, li_75, li_84, li_91, li_93, li_98, li_100, li_103, li_105, li_107, li_109, li_110, li_111, li_112, li_115, li_118, li_119, li_120, li_121, li_124, li_140, li_180, li_206, li_240, li_255, li_420, li_520, li_999, li_1000, li_1771, li_8240, li_9999, li_88200, li_1000000, li_2097151, li_31, nI_add, pk_mul, zz_sub, zz_an, nI_clamp, zz_leT, zz_leF, zz_ltT, zz_ltF, zz_eqF, zz_eqT, zz_m1, zz_m2, zz_m3, zz_m4, zz_m5, zz_m6, zz_ck, zz_bl, zz_b3, zz_b2, zz_shl, zz_bt0, zz_bt1, pk_div, Nat.zero_add, Nat.add_zero, if_true, if_false, reduceIte, Nat.mul_zero, zz_or0, zz_inT, zz_inF, h1, ln]
def sIC (k j : Nat) : Bool := (k == 42 && j == 2) || k == 44 || (k == 45 && j == 7) || ((k == 48 || k == 49) && j == 40)
def sIM (k j : Nat) : Bool := (k == 0 && j == 43) || k == 25
theorem op_image {IC : am_I} {LC : am_L} {IM : am_I} {W : Nat → (Nat → Nat) → Int32} {q : Nat → Nat} {g : Nat → Nat → Nat} {a : Nat} {K : Nat → Nat → Nat → Nat} {kw l : Nat → Nat} {b : Nat} {s : Nat → Nat → Nat} {w : Nat} {e : Nat → Nat} (h : DY IC LC IM W q g a K kw l) (hG : GI g b s w e) (hC : CI IC LC (g 0 0) b s w e) (hM : MI IM (g 0 0) b s w e) (LM : am_L) : ∃ r IC' LC' IM' b' s' w' e', fX11_image am_N 1900 IC LC = some (r, IC', LC') ∧ fX12_image am_N 1900 IM LM = some (r, IM', LM) ∧ DY IC' LC' IM' W q g a K kw l ∧ GI g b' s' w' e' ∧ CI IC' LC' (g 0 0) b' s' w' e' ∧ MI IM' (g 0 0) b' s' w' e' ∧ am_ag sIC IC IC' ∧ am_ag sIM IM IM' := by
  obtain ⟨h1, hl, h3, h4, h5, h6, h7, h8, h9, h10⟩ := id h
  have gm := h1.1
  have aa := h8.1
  obtain ⟨p1, p2, p3, σ, p4, p5, p6⟩ := id h9
  obtain ⟨m1, m2, m3⟩ := id h10
  have hm := h3.1
  have hm2 := h6.1
  have pl := pot_le h1 (RV_g h1)
  have kl := h8.2.2.2.1
  by_cases c0 : g 0 0 = 0
  · refine ⟨-nI 1, IC, LC, IM, b, s, w, e, ?_, ?_, h, hG, hC, hM, ag_rf, ag_rf⟩
    · simp (disch := omega) only [fX11_image, zz_lt, li_0, li_1, li_2, li_3, li_4, li_5, li_6, li_7, li_8, li_9, li_10, li_11, li_12, li_15, li_16, li_20, li_21, li_24, li_25, li_26, li_32, li_33, li_38, li_40, li_41, li_42, li_43, li_45, li_47, li_48, li_57, li_58, li_59, li_60, li_61, li_62, li_63, li_74, li_75, li_84, li_91, li_93, li_98, li_100, li_103, li_105, li_107, li_109, li_110, li_111, li_112, li_115, li_118, li_119, li_120, li_121, li_124, li_140, li_180, li_206, li_240, li_255, li_420, li_520, li_999, li_1000, li_1771, li_8240, li_9999, li_88200, li_1000000, li_2097151, li_31, nI_add, pk_mul, zz_sub, zz_an, nI_clamp, zz_leT, zz_leF, zz_ltT, zz_ltF, zz_eqF, zz_eqT, zz_m1, zz_m2, zz_m3, zz_m4, zz_m5, zz_m6, zz_ck, zz_bl, zz_b3, zz_b2, zz_shl, zz_bt0, zz_bt1, pk_div, Nat.zero_add, Nat.add_zero, if_true, if_false, reduceIte, Nat.mul_zero, zz_or0, zz_inT, zz_inF, hm]
    · simp (disch := omega) only [fX12_image, zz_lt, li_0, li_1, li_2, li_3, li_4, li_5, li_6, li_7, li_8, li_9, li_10, li_11, li_12, li_15, li_16, li_20, li_21, li_24, li_25, li_26, li_32, li_33, li_38, li_40, li_41, li_42, li_43, li_45, li_47, li_48, li_57, li_58, li_59, li_60, li_61, li_62, li_63, li_74, li_75, li_84, li_91, li_93, li_98, li_100, li_103, li_105, li_107, li_109, li_110, li_111, li_112, li_115, li_118, li_119, li_120, li_121, li_124, li_140, li_180, li_206, li_240, li_255, li_420, li_520, li_999, li_1000, li_1771, li_8240, li_9999, li_88200, li_1000000, li_2097151, li_31, nI_add, pk_mul, zz_sub, zz_an, nI_clamp, zz_leT, zz_leF, zz_ltT, zz_ltF, zz_eqF, zz_eqT, zz_m1, zz_m2, zz_m3, zz_m4, zz_m5, zz_m6, zz_ck, zz_bl, zz_b3, zz_b2, zz_shl, zz_bt0, zz_bt1, pk_div, Nat.zero_add, Nat.add_zero, if_true, if_false, reduceIte, Nat.mul_zero, zz_or0, zz_inT, zz_inF, hm2]
  · have kr := pc_keepR h1 h3 am_N 1900 LC (j := 40) (by omega) am_N8
    obtain ⟨bits, hb⟩ : ∃ x, am_bits (fun m => decide (g 11 m = 1)) (g 0 0) = x := ⟨_, rfl⟩
    rw [hb] at kr
    obtain ⟨J, hJ⟩ : ∃ J, J = am_up (am_up (am_up IC 48 40 bits) 49 40 (nI (g 0 4))) 42 2 (nI (min (kw a) 60)) := ⟨_, rfl⟩
    have j3 : J 42 3 = nI (kw a) := by rw [hJ, up_n (by omega), am_up_ne (by omega), am_up_ne (by omega)]; exact p2
    have j43 : J 43 = IC 43 := by rw [hJ, am_up_ne (by omega), am_up_ne (by omega), am_up_ne (by omega)]
    obtain ⟨I1, w1, w2, w3⟩ := pc_imgL am_N 1900 (am_uL (am_uL LC 46 40 (lN (pkd 5 (g 9) (g 0 0)))) 47 40 (lN (pkd 4 (g 10) (g 0 0)))) (W := kw a) (v := min (kw a) 60) (l := l) (by omega) rfl J (by rw [hJ, up_s rfl]) j3 (fun t g1 g2 => by rw [j43]; exact p3 t (by have := (GP_mono h8 a (Nat.le_refl _)).1; omega) g2) (min (kw a) 60) 0 am_N J (by omega) (by unfold am_N; omega) (fun y hy => by omega) ag_rf
    have agC : am_ag sIC IC (am_up I1 45 7 (nI 1)) := by
      refine ag_up (ag_tr (I' := J) ?_ (ag_wk w3 (fun k j hk => ?_))) rfl
      · rw [hJ]; exact ag_up (ag_up (ag_up ag_rf rfl) rfl) rfl
      · unfold s44
        split
        · simp [sIC] at hk
        · rfl
    obtain ⟨I2, v1, v2, v3⟩ := pm_imgL am_N 1900 LM IM (x := nI (g 0 4)) h6.2.2.2.2.1 206 0 am_N IM (by omega) (by unfold am_N; omega) (fun y hy => by omega) ag_rf
    have agM : am_ag sIM IM (am_up I2 0 43 (nI 1)) := by
      refine ag_up (ag_wk v3 (fun k j hk => ?_)) rfl
      unfold s25
      split
      · simp [sIM] at hk
      · rfl
    have d395 : I1 39 5 = nI (g 0 4) := by
      rw [w3 39 5 rfl, hJ, am_up_ne (by omega), am_up_ne (by omega), am_up_ne (by omega)]
      exact h3.2.2.2.2.1
    refine ⟨nI (g 0 4), am_up I1 45 7 (nI 1), am_uL (am_uL LC 46 40 (lN (pkd 5 (g 9) (g 0 0)))) 47 40 (lN (pkd 4 (g 10) (g 0 0))), am_up I2 0 43 (nI 1), 1, g, min (kw a) 60, fun t => l (kw a - min (kw a) 60 + t), ?_, ?_, ⟨h1, hl, ?_, ?_, ?_, ?_, ?_, h8, ?_, ?_⟩, ⟨by omega, fun _ => ⟨RV_g h1, by omega, by omega, fun t => h8.2.2.2.2 _⟩⟩, ⟨up_s rfl, fun _ => ⟨⟨?_, ?_, ?_, ?_⟩, ?_, fun t ht => ?_⟩⟩, ⟨up_s rfl, fun _ => ?_⟩, agC, agM⟩
    · have mn := fun I L => J_min am_N 1900 (kw a) 60 I L (by omega) (by omega)
      have w1' : fX5_keepImage_b10 am_N 1900 am_N (nI 0) J (am_uL (am_uL LC 46 40 (lN (pkd 5 (g 9) (g 0 0)))) 47 40 (lN (pkd 4 (g 10) (g 0 0)))) = _ := w1
      rw [hJ] at w1'
      simp (disch := omega) only [fX11_image, fX6_keepImage_road_logbook, fX5_keepImage, fX5_length, zz_lt, li_0, li_1, li_2, li_3, li_4, li_5, li_6, li_7, li_8, li_9, li_10, li_11, li_12, li_15, li_16, li_20, li_21, li_24, li_25, li_26, li_32, li_33, li_38, li_40, li_41, li_42, li_43, li_45, li_47, li_48, li_57, li_58, li_59, li_60, li_61, li_62, li_63, li_74, li_75, li_84, li_91, li_93, li_98, li_100, li_103, li_105, li_107, li_109, li_110, li_111, li_112, li_115, li_118, li_119, li_120, li_121, li_124, li_140, li_180, li_206, li_240, li_255, li_420, li_520, li_999, li_1000, li_1771, li_8240, li_9999, li_88200, li_1000000, li_2097151, li_31, nI_add, pk_mul, zz_sub, zz_an, nI_clamp, zz_leT, zz_leF, zz_ltT, zz_ltF, zz_eqF, zz_eqT, zz_m1, zz_m2, zz_m3, zz_m4, zz_m5, zz_m6, zz_ck, zz_bl, zz_b3, zz_b2, zz_shl, zz_bt0, zz_bt1, pk_div, Nat.zero_add, Nat.add_zero, if_true, if_false, reduceIte, Nat.mul_zero, zz_or0, zz_inT, zz_inF, hm, kr, am_up_ne, p2, mn, w1', d395]
    · simp (disch := omega) only [fX12_image, zz_lt, li_0, li_1, li_2, li_3, li_4, li_5, li_6, li_7, li_8, li_9, li_10, li_11, li_12, li_15, li_16, li_20, li_21, li_24, li_25, li_26, li_32, li_33, li_38, li_40, li_41, li_42, li_43, li_45, li_47, li_48, li_57, li_58, li_59, li_60, li_61, li_62, li_63, li_74, li_75, li_84, li_91, li_93, li_98, li_100, li_103, li_105, li_107, li_109, li_110, li_111, li_112, li_115, li_118, li_119, li_120, li_121, li_124, li_140, li_180, li_206, li_240, li_255, li_420, li_520, li_999, li_1000, li_1771, li_8240, li_9999, li_88200, li_1000000, li_2097151, li_31, nI_add, pk_mul, zz_sub, zz_an, nI_clamp, zz_leT, zz_leF, zz_ltT, zz_ltF, zz_eqF, zz_eqT, zz_m1, zz_m2, zz_m3, zz_m4, zz_m5, zz_m6, zz_ck, zz_bl, zz_b3, zz_b2, zz_shl, zz_bt0, zz_bt1, pk_div, Nat.zero_add, Nat.add_zero, if_true, if_false, reduceIte, Nat.mul_zero, zz_or0, zz_inT, zz_inF, hm2]
      exact v1
    · obtain ⟨hm, hgv, hp, ha, hd, t0, t1, t2, t3, t4, t5, o0, o1, r0, r1, hde, hra, hs0, hs1⟩ := id h3
      exact CS_mk h3 SA_rf (fun k k1 k2 => funext (fun j => agC k j (by simp [sIC]; omega))) ((agC 39 5 rfl).trans hd) (fun m hm => (agC 40 m rfl).trans (r0 m hm)) (fun m hm => (agC 41 m rfl).trans (r1 m hm)) ((agC 39 4 rfl).trans hde)
    · exact CL_up hl h4 (fun k k1 k2 => funext (fun j => agC k j (by simp [sIC]; omega)))
    · exact (agC 39 6 rfl).trans h5
    · obtain ⟨hm, hgv, hp, ha, hd, t0, t1, t2, t3, t4, t5, o0, o1, r0, r1, r2⟩ := id h6
      exact MS_mk h6 SA_rf (agM 0 25 rfl) (agM 0 26 rfl) (fun k k1 k2 => funext (fun j => agM k j (by simp [sIM]; omega))) ((agM 17 _ rfl).trans hd) (fun m hm => (agM 17 _ rfl).trans (r0 m hm)) (fun m hm => (agM 17 _ rfl).trans (r1 m hm)) (fun m hm => (agM 17 _ rfl).trans (r2 m hm))
    · exact ML_up h7 (agM 0 13 rfl) (agM 0 28 rfl) (fun k k1 k2 => funext (fun j => agM k j (by simp [sIM]; omega)))
    · exact CP_eq h9 aa (agC 45 5 rfl) (agC 45 6 rfl) (agC 42 3 rfl) (funext (fun j => agC 43 j rfl)) (fun j hj => ⟨agC 48 j (by simp [sIC]; omega), agC 49 j (by simp [sIC]; omega), agC 50 j rfl, by rw [am_uL_ne (by omega), uL_n (by omega)], by rw [uL_n (by omega), am_uL_ne (by omega)]⟩)
    · exact MP_eq h10 (agM 0 30 rfl) (funext (fun j => agM 18 j rfl)) (fun j _ => agM 17 j rfl)
    · rw [am_uL_ne (by omega), uL_s rfl]
    · rw [uL_s rfl]
    · rw [am_up_ne (by omega), w3 48 40 rfl, hJ, am_up_ne (by omega), am_up_ne (by omega), up_s rfl, hb]
    · rw [am_up_ne (by omega), w3 49 40 rfl, hJ, am_up_ne (by omega), up_s rfl]
    · rw [am_up_ne (by omega), w3 42 2 rfl, hJ, up_s rfl]
    · rw [am_up_ne (by omega)]; exact w2 t ht
    · obtain ⟨hm, hgv, hp, ha, hd, t0, t1, t2, t3, t4, t5, o0, o1, r0, r1, r2⟩ := id h6
      refine SN_eq gm (f := IM 17) ⟨r0, r1, r2, hd, ?_⟩ (fun j hj => by rw [am_up_ne (by omega)]; exact v2 j hj)
      have mm : min (min (kw a) 60) 60 = min (kw a) 60 := by omega
      unfold LG
      rw [mm, Nat.sub_self]
      refine ⟨m3.1, fun t ht => ?_⟩
      rw [Nat.zero_add]
      exact m3.2 t ht
