/-! PURE: both sides' days: the deeds done. -/
def DY (IC : am_I) (LC : am_L) (IM : am_I) (W : Nat → (Nat → Nat) → Int32) (q : Nat → Nat) (g : Nat → Nat → Nat) (a : Nat) (K : Nat → Nat → Nat → Nat) (kw l : Nat → Nat) : Prop := GW g ∧ GL q ∧ CS IC g ∧ CL IC W q ∧ CH IC W q g ∧ MS IM g ∧ ML IM W q ∧ GP g a K kw l ∧ CP IC LC (g 0 0) a K kw l ∧ MP IM (g 0 0) a K kw l
theorem CP_rd {I I' : am_I} {L : am_L} {μ a : Nat} {K : Nat → Nat → Nat → Nat} {kw l : Nat → Nat} (h : CP I L μ a K kw l) (ha : a ≤ 40) (w : am_ag sRd I I') : CP I' L μ a K kw l := CP_eq h ha (w 45 5 rfl) (w 45 6 rfl) (w 42 3 rfl) (funext (fun j => w 43 j rfl)) (fun j _ => ⟨w 48 j rfl, w 49 j rfl, w 50 j rfl, rfl, rfl⟩)
theorem MP_scr {I I' : am_I} {μ a : Nat} {K : Nat → Nat → Nat → Nat} {kw l : Nat → Nat} (h : MP I μ a K kw l) (w : am_ag scrM I I') : MP I' μ a K kw l := MP_eq h (w 0 30 rfl) (funext (fun j => w 18 j rfl)) (fun j _ => w 17 j rfl)
theorem DY_m {IC : am_I} {LC : am_L} {IM IM' : am_I} {W : Nat → (Nat → Nat) → Int32} {q : Nat → Nat} {g : Nat → Nat → Nat} {a : Nat} {K : Nat → Nat → Nat → Nat} {kw l : Nat → Nat} (h : DY IC LC IM W q g a K kw l) (w : am_ag scrM IM IM') : DY IC LC IM' W q g a K kw l := by
  obtain ⟨h1, h2, h3, h4, h5, h6, h7, h8, h9, h10⟩ := h
  exact ⟨h1, h2, h3, h4, h5, MS_keep h6 w, ML_keep h2 h7 w, h8, h9, MP_scr h10 w⟩
theorem ag_rdC {I I' : am_I} (w : am_ag sRd I I') : am_ag sDC I I' := ag_wk w (fun k j h => by
  unfold sDC at h
  unfold sRd scH
  revert h
  cases scrC k j
  · simp
    intros
    simp [*]
  · simp)
theorem ag_liC {I I' : am_I} (w : am_ag sLi I I') : am_ag sDC I I' := ag_wk w (fun k j h => by
  unfold sDC at h
  unfold sLi
  simp at h ⊢
  exact ⟨by omega, by omega⟩)
theorem ag_paC {I I' : am_I} (w : am_ag sPa I I') : am_ag sDC I I' := ag_wk w (fun k j h => by
  unfold sDC at h
  unfold sPa
  simp at h ⊢
  exact ⟨⟨by omega, by omega⟩, by omega⟩)
theorem ag_nM {I I' : am_I} (w : am_ag sN I I') : am_ag sDM I I' := ag_wk w (fun k j h => by
  unfold sN
  split
  · simp [sDM] at h
  · rfl)
theorem ag_18M {I I' : am_I} (w : am_ag s18 I I') : am_ag sDM I I' := ag_wk w (fun k j h => by
  unfold s18
  split
  · simp [sDM] at h
  · simp [sDM] at h
    simp
    exact h.2
  · rfl)
theorem ag_scM {I I' : am_I} (w : am_ag scrM I I') : am_ag sDM I I' := ag_wk w (fun k j h => by
  unfold sDM at h
  cases e : scrM k j
  · rfl
  · rw [e] at h; simp at h)
theorem sDM_17 {j : Nat} : sDM 17 j = true := by simp [sDM]
/-- both keep how it is -/
theorem dy_keep {IC : am_I} {LC : am_L} {IM : am_I} {W : Nat → (Nat → Nat) → Int32} {q : Nat → Nat} {g : Nat → Nat → Nat} {a : Nat} {K : Nat → Nat → Nat → Nat} {kw l : Nat → Nat} (h : DY IC LC IM W q g a K kw l) (n d : Nat) (hn : 10000 < n) (LM : am_L) : ∃ IC' LC' IM', fX6_keepAct_road_logbook n d IC LC = some (IC', LC') ∧ fX12_keep n d IM LM = some (IM', LM) ∧ DY IC' LC' IM' W q g (min a 39 + 1) (pK a K g) (pW a kw) l ∧ am_ag sDC IC IC' ∧ aLD LC LC' ∧ am_ag sDM IM IM' := by
  obtain ⟨h1, h2, h3, h4, h5, h6, h7, h8, h9, h10⟩ := h
  obtain ⟨IC', LC', w1, w2, w3, w4, _⟩ := pc_keepA h1 h3 h8 h9 n d (by omega)
  obtain ⟨IM', v1, v2, v3⟩ := pm_keep h1 h6 h8 h10 n d hn LM
  refine ⟨IC', LC', IM', w1, v1, ⟨h1, h2, ?_, ?_, ?_, ?_, ?_, GP_keep h1 h8, w2, v2⟩, ag_paC w3, w4, ag_18M v3⟩
  · obtain ⟨hm, hgv, hp, ha, hd, t0, t1, t2, t3, t4, t5, o0, o1, r0, r1, hde, hra, hs0, hs1⟩ := id h3
    refine CS_mk h3 SA_rf (fun k k1 k2 => funext (fun j => w3 k j (by simp [sPa]; omega))) ((w3 39 5 rfl).trans hd) (fun m hm => (w3 40 m rfl).trans (r0 m hm)) (fun m hm => (w3 41 m rfl).trans (r1 m hm)) ((w3 39 4 rfl).trans hde)
  · exact CL_up h2 h4 (fun k k1 k2 => funext (fun j => w3 k j (by simp [sPa]; omega)))
  · exact (w3 39 6 rfl).trans h5
  · obtain ⟨hm, hgv, hp, ha, hd, t0, t1, t2, t3, t4, t5, o0, o1, r0, r1, r2⟩ := id h6
    exact MS_mk h6 SA_rf (v3 0 25 rfl) (v3 0 26 rfl) (fun k k1 k2 => funext (fun j => v3 k j (by unfold s18; split <;> first | omega | rfl))) ((v3 17 _ rfl).trans hd) (fun m hm => (v3 17 _ rfl).trans (r0 m hm)) (fun m hm => (v3 17 _ rfl).trans (r1 m hm)) (fun m hm => (v3 17 _ rfl).trans (r2 m hm))
  · exact ML_up h7 (v3 0 13 rfl) (v3 0 28 rfl) (fun k k1 k2 => funext (fun j => v3 k j (by unfold s18; split <;> first | omega | rfl)))
theorem GP_deed {g g' : Nat → Nat → Nat} {a x : Nat} {K : Nat → Nat → Nat → Nat} {kw l : Nat → Nat} (h : GP g a K kw l) (sa : SA g g') (h0 : 0 < a) (hlt : kw a < kw (a - 1) + 9) (hp : pot g (g 0 0) + 1 ≤ pot g' (g 0 0)) (hx : x ≤ 399) : GP g' a K (un kw a (kw a + 1)) (un l (kw a) x) := by
  obtain ⟨h1, h2, h3, h4, h5⟩ := h
  have z0 := sa.2 0 (by omega)
  refine ⟨h1, fun i hi => ?_, fun i hi => ?_, ?_, fun t => ?_⟩
  · unfold un
    rw [if_neg (by omega : ¬ i = a)]
    by_cases c : i + 1 = a
    · rw [if_pos c]
      have := h2 i hi
      rw [c] at this
      rw [show a - 1 = i by omega] at hlt
      omega
    · rw [if_neg c]
      exact h2 i hi
  · unfold un
    rw [if_neg (by omega : ¬ i = a), z0]
    exact ⟨RV_sa sa (h3 i hi).1, (h3 i hi).2⟩
  · unfold un
    rw [if_pos rfl, z0]
    omega
  · unfold un
    split
    · exact hx
    · exact h5 t
theorem GP_mv {g g' : Nat → Nat → Nat} {a : Nat} {K : Nat → Nat → Nat → Nat} {kw l : Nat → Nat} (h : GP g a K kw l) (sa : SA g g') (h11 : g' 11 = g 11) (hd : g' 0 4 = g 0 4) : GP g' a K kw l := by
  obtain ⟨h1, h2, h3, h4, h5⟩ := h
  have z0 := sa.2 0 (by omega)
  refine ⟨h1, h2, fun i hi => ?_, ?_, h5⟩
  · rw [z0]; exact ⟨RV_sa sa (h3 i hi).1, (h3 i hi).2⟩
  · unfold pot at *
    rw [z0, h11, hd]
    exact h4
/-- both write a line, the deed done -/
theorem dy_note {IC : am_I} {LC : am_L} {IM : am_I} {W : Nat → (Nat → Nat) → Int32} {q : Nat → Nat} {g g' : Nat → Nat → Nat} {a : Nat} {K : Nat → Nat → Nat → Nat} {kw l : Nat → Nat} (hg : GW g) (hg' : GW g') (hl : GL q) (h3 : CS IC g') (h4 : CL IC W q) (h5 : CH IC W q g') (h6 : MS IM g') (h7 : ML IM W q) (hP : GP g a K kw l) (hC : CP IC LC (g 0 0) a K kw l) (hM : MP IM (g 0 0) a K kw l) (sa : SA g g') (h0 : 0 < a) (hlt : kw a < kw (a - 1) + 9) (hp : pot g (g 0 0) + 1 ≤ pot g' (g 0 0)) (n d : Nat) (hn : 10000 < n) (LM : am_L) {x y z : Nat} (hx : x ≤ 3) (hy : y ≤ 9) (hz : z ≤ 9) : ∃ IC' IM', fX5_add n d (nI x) (zn y) (zn z) IC LC = some (IC', LC) ∧ fX12_note n d (nI x) (zn y) (zn z) IM LM = some (IM', LM) ∧ DY IC' LC IM' W q g' a K (un kw a (kw a + 1)) (un l (kw a) (100 * x + 10 * y + z)) ∧ am_ag sLi IC IC' ∧ am_ag sN IM IM' := by
  have z0 := sa.2 0 (by omega)
  have m1 := GP_mono hP (a - 1) (by omega)
  have a1 := hP.1
  have b1 := hP.2.2.2.1
  have b2 := pot_le hg (RV_g hg)
  obtain ⟨I1, w1, w2, w3⟩ := pc_add (I := IC) (L := LC) n d (by omega) h0 (by omega) hC hx hy hz
  have mono : ∀ i, i < a → kw i ≤ kw a := fun i hi => by
    have aux : ∀ j, i + j ≤ a → kw i ≤ kw (i + j) := fun j => by
      induction j with
      | zero => intro _; exact Nat.le_refl _
      | succ j ih => intro hj; exact Nat.le_trans (ih (by omega)) (hP.2.1 (i + j) (by omega)).1
    have := aux (a - i) (by omega)
    rw [show i + (a - i) = a by omega] at this
    exact this
  obtain ⟨I2, v1, v2, v3⟩ := pm_noteP n d (by omega) LM h0 mono hM hx hy hz
  refine ⟨I1, I2, w1, v1, ⟨hg', hl, ?_, ?_, ?_, MS_keepN hg' h6 v3, ?_, GP_deed hP sa h0 hlt hp (by omega), by rw [z0]; exact w2, by rw [z0]; exact v2⟩, w3, v3⟩
  · obtain ⟨hm, hgv, hp, ha, hd, t0, t1, t2, t3, t4, t5, o0, o1, r0, r1, hde, hra, hs0, hs1⟩ := id h3
    exact CS_mk h3 SA_rf (fun k k1 k2 => funext (fun j => w3 k j (by simp [sLi]; omega))) ((w3 39 5 rfl).trans hd) (fun m hm => (w3 40 m rfl).trans (r0 m hm)) (fun m hm => (w3 41 m rfl).trans (r1 m hm)) ((w3 39 4 rfl).trans hde)
  · exact CL_up hl h4 (fun k k1 k2 => funext (fun j => w3 k j (by simp [sLi]; omega)))
  · exact (w3 39 6 rfl).trans h5
  · exact ML_up h7 (v3 0 13 rfl) (v3 0 28 rfl) (fun k k1 k2 => funext (fun j => v3 k j (by unfold sN; split <;> first | omega | rfl)))
theorem pot_mark {g g' : Nat → Nat → Nat} {m μ : Nat} (hm : m < μ) (h0 : g 11 m = 0) (hd : g' 0 4 = g 0 4) (h11 : ∀ k, g' 11 k = if k = m then 1 else g 11 k) : pot g μ + 1 ≤ pot g' μ := by
  have := sm_un (g 11) m 1 μ hm
  have e : sm (g' 11) μ = sm (un (g 11) m 1) μ := sm_ext μ (fun k _ => by rw [h11]; rfl)
  unfold pot
  rw [hd, e]
  omega
/-- a deed's end, told by its man -/
def dyR (A B : Option (am_I × am_L)) (IC : am_I) (LC : am_L) (IM : am_I) (LM : am_L) (W : Nat → (Nat → Nat) → Int32) (q : Nat → Nat) (g g' : Nat → Nat → Nat) (a : Nat) (K : Nat → Nat → Nat → Nat) (kw l : Nat → Nat) (v : Nat) : Prop := ∃ IC' IM', A = some (IC', LC) ∧ B = some (IM', LM) ∧ DY IC' LC IM' W q g' a K (un kw a (kw a + 1)) (un l (kw a) v) ∧ SA g g' ∧ am_ag sDC IC IC' ∧ am_ag sDM IM IM'
def g_go (g : Nat → Nat → Nat) (m : Nat) : Nat → Nat → Nat := gu (gcm g m (g 9 m - 1)) 11 m 1
def g_st (g : Nat → Nat → Nat) (m : Nat) : Nat → Nat → Nat := gu (gu g 10 m (g 10 m - 1)) 11 m 1
def g_pre (g : Nat → Nat → Nat) (m o : Nat) : Nat → Nat → Nat := gu (gcm (gu g 10 m (g 10 m - 1)) o (g 9 o - g 3 m)) 11 m 1
theorem dy_go {IC : am_I} {LC : am_L} {IM : am_I} {W : Nat → (Nat → Nat) → Int32} {q : Nat → Nat} {g : Nat → Nat → Nat} {a : Nat} {K : Nat → Nat → Nat → Nat} {kw l : Nat → Nat} (h : DY IC LC IM W q g a K kw l) (h0 : 0 < a) (hlt : kw a < kw (a - 1) + 9) (n d : Nat) (hn : 10000 < n) (LM : am_L) {m : Nat} (h2 : m < g 0 0) (hf : g 11 m = 0) (hs : 0 < g 9 m) : dyR (fX11_doGo n d (nI m) IC LC) (fX12_goNow n d (nI m) IM LM) IC LC IM LM W q g (g_go g m) a K kw l (100 * 0 + 10 * (m + 1) + 0) := by
  obtain ⟨h1, hl, h3, h4, h5, h6, h7, h8, h9, h10⟩ := h
  have gm := h1.1
  have b9 := h1.2.2.2.2.2.2.2.2.1 m h2
  have aa := h8.1
  obtain ⟨I1, w1, w2, w3, w4, w5⟩ := pc_move h1 hl n d (by omega) h3 h4 h5 LC (m := m) (b := 1) h2 (by omega)
  have hg1 := gcm_w h1 (m := m) (s := g 9 m - 1) (by omega)
  obtain ⟨I2, x1, x2, x3, x4, x5⟩ := pc_mark hg1 hl n d w2 w3 w4 LC (m := m) (by rw [gcm_0]; exact h2)
  have sa : SA g (g_go g m) := SA_tr (gcm_sa g m _) (gu_sa (by omega))
  have hg2 : GW (g_go g m) := gu11_w hg1 (by omega)
  obtain ⟨hm, hgv, hp, ha, hd, t0, t1, t2, t3, t4, t5, o0, o1, r0, r1, r2⟩ := id h6
  have e17 : ∀ k, k ≠ 17 → am_up (am_up (am_up IM 17 m (nI (g 9 m - 1))) 17 (8 + m) (nI (gRest g (g 9 m - 1)))) 17 (16 + m) (nI 1) k = IM k := fun k hk => by rw [am_up_ne hk, am_up_ne hk, am_up_ne hk]
  have y6 : MS (am_up (am_up (am_up IM 17 m (nI (g 9 m - 1))) 17 (8 + m) (nI (gRest g (g 9 m - 1)))) 17 (16 + m) (nI 1)) (g_go g m) := by
    refine MS_mk h6 sa (by rw [e17 _ (by omega)]) (by rw [e17 _ (by omega)]) (fun k k1 k2 => e17 k (by omega)) ?_ (fun k hk => ?_) (fun k hk => ?_) (fun k hk => ?_)
    · rw [up_n (by omega), up_n (by omega), up_n (by omega), hd]; unfold g_go; rw [gu_ne (by omega), gcm_0]
    · rw [up_n (by omega), up_n (by omega)]; unfold g_go; rw [gu_ne (by omega), gcm_9]
      by_cases c : k = m
      · rw [up_s c, if_pos c]
      · rw [up_n c, if_neg c]; exact r0 k hk
    · rw [up_n (by omega)]; unfold g_go; rw [gu_ne (by omega), gcm_10]
      by_cases c : k = m
      · rw [up_s (by omega), if_pos c]
      · rw [up_n (by omega), up_n (by omega), if_neg c]; exact r1 k hk
    · unfold g_go; rw [gu_eq, gcm_11]
      by_cases c : k = m
      · rw [up_s (by omega), if_pos c]
      · rw [up_n (by omega), up_n (by omega), up_n (by omega), if_neg c]; exact r2 k hk
  obtain ⟨I3, I4, y1, y2, y3, y4, y5⟩ := dy_note (LC := LC) h1 hg2 hl x2 x3 x4 y6 (ML_up h7 (by rw [e17 _ (by omega)]) (by rw [e17 _ (by omega)]) (fun k k1 k2 => e17 k (by omega))) h8 (CP_rd (CP_rd h9 aa w5) aa x5) (MP_eq h10 (by rw [e17 _ (by omega)]) (e17 18 (by omega)) (fun j hj => by rw [up_n (by omega), up_n (by omega), up_n (by omega)])) sa h0 hlt (pot_mark h2 hf (by unfold g_go; rw [gu_ne (by omega), gcm_0]) (fun k => by unfold g_go; rw [gu_eq, gcm_11])) n d hn LM (x := 0) (y := m + 1) (z := 0) (by omega) (by omega) (by omega)
  rw [en_s, en_0] at y1 y2
  refine ⟨I3, I4, ?_, ?_, y3, sa, ag_tr (ag_tr (ag_rdC w5) (ag_rdC x5)) (ag_liC y4), ag_tr (ag_up (ag_up (ag_up ag_rf sDM_17) sDM_17) sDM_17) (ag_nM y5)⟩
  · simp (disch := omega) only [fX11_doGo, zz_lt, li_0, li_1, li_2, li_3, li_4, li_5, li_6, li_7, li_8, li_9, li_10, li_11, li_12, li_15, li_16, li_20, li_21, li_24, li_25, li_26, li_32, li_33, li_38, li_40, li_41, li_42, li_43, li_45, li_47, li_48, li_57, li_58, li_59, li_60, li_61, li_62, li_63, li_74, li_75, li_84, li_91, li_93, li_98, li_100, li_103, li_105, li_107, li_109, li_110, li_111, li_112, li_115, li_118, li_119, li_120, li_121, li_124, li_140, li_180, li_206, li_240, li_255, li_420, li_520, li_999, li_1000, li_1771, li_8240, li_9999, li_88200, li_1000000, li_2097151, li_31, nI_add, pk_mul, zz_sub, zz_an, nI_clamp, zz_leT, zz_leF, zz_ltT, zz_ltF, zz_eqF, zz_eqT, zz_m1, zz_m2, zz_m3, zz_m4, zz_m5, zz_m6, zz_ck, zz_bl, zz_b3, zz_b2, zz_shl, zz_bt0, zz_bt1, pk_div, Nat.zero_add, Nat.add_zero, if_true, if_false, reduceIte, Nat.mul_zero, zz_or0, zz_inT, zz_inF, w1, x1, y1]
  · have rs := MS_rest (I' := am_up IM 17 m (nI (g 9 m - 1))) h1 h6 (by rw [am_up_ne (by omega)]) (by rw [am_up_ne (by omega)]) n d (by omega) LM (s := g 9 m - 1) (by omega)
    simp (disch := omega) only [fX12_goNow, fX12_comes, zz_lt, li_0, li_1, li_2, li_3, li_4, li_5, li_6, li_7, li_8, li_9, li_10, li_11, li_12, li_15, li_16, li_20, li_21, li_24, li_25, li_26, li_32, li_33, li_38, li_40, li_41, li_42, li_43, li_45, li_47, li_48, li_57, li_58, li_59, li_60, li_61, li_62, li_63, li_74, li_75, li_84, li_91, li_93, li_98, li_100, li_103, li_105, li_107, li_109, li_110, li_111, li_112, li_115, li_118, li_119, li_120, li_121, li_124, li_140, li_180, li_206, li_240, li_255, li_420, li_520, li_999, li_1000, li_1771, li_8240, li_9999, li_88200, li_1000000, li_2097151, li_31, nI_add, pk_mul, zz_sub, zz_an, nI_clamp, zz_leT, zz_leF, zz_ltT, zz_ltF, zz_eqF, zz_eqT, zz_m1, zz_m2, zz_m3, zz_m4, zz_m5, zz_m6, zz_ck, zz_bl, zz_b3, zz_b2, zz_shl, zz_bt0, zz_bt1, pk_div, Nat.zero_add, Nat.add_zero, if_true, if_false, reduceIte, Nat.mul_zero, zz_or0, zz_inT, zz_inF, r0, rs, y2]
theorem dy_stay {IC : am_I} {LC : am_L} {IM : am_I} {W : Nat → (Nat → Nat) → Int32} {q : Nat → Nat} {g : Nat → Nat → Nat} {a : Nat} {K : Nat → Nat → Nat → Nat} {kw l : Nat → Nat} (h : DY IC LC IM W q g a K kw l) (h0 : 0 < a) (hlt : kw a < kw (a - 1) + 9) (n d : Nat) (hn : 10000 < n) (LM : am_L) {m : Nat} (h2 : m < g 0 0) (hf : g 11 m = 0) (hs : 0 < g 10 m) : dyR (fX11_doStay n d (nI m) IC LC) (fX12_stayNow n d (nI m) IM LM) IC LC IM LM W q g (g_st g m) a K kw l (100 * 1 + 10 * (m + 1) + 0) := by
  obtain ⟨h1, hl, h3, h4, h5, h6, h7, h8, h9, h10⟩ := h
  have gm := h1.1
  have b9 := h1.2.2.2.2.2.2.2.2.1 m h2
  have aa := h8.1
  obtain ⟨I1, w1, w2, w3, w4, w5⟩ := pc_spend h1 hl n d h3 h4 h5 LC (m := m) h2 hs
  have hg1 := gu10_w h1 (m := m) (v := g 10 m - 1) (by omega)
  obtain ⟨I2, x1, x2, x3, x4, x5⟩ := pc_mark hg1 hl n d w2 w3 w4 LC (m := m) (by rw [gu_ne (by omega)]; exact h2)
  have sa : SA g (g_st g m) := SA_tr (gu_sa (by omega)) (gu_sa (by omega))
  have hg2 : GW (g_st g m) := gu11_w hg1 (by omega)
  obtain ⟨hm, hgv, hp, ha, hd, t0, t1, t2, t3, t4, t5, o0, o1, r0, r1, r2⟩ := id h6
  have e17 : ∀ k, k ≠ 17 → am_up (am_up IM 17 (8 + m) (nI (g 10 m - 1))) 17 (16 + m) (nI 1) k = IM k := fun k hk => by rw [am_up_ne hk, am_up_ne hk]
  have y6 : MS (am_up (am_up IM 17 (8 + m) (nI (g 10 m - 1))) 17 (16 + m) (nI 1)) (g_st g m) := by
    refine MS_mk h6 sa (by rw [e17 _ (by omega)]) (by rw [e17 _ (by omega)]) (fun k k1 k2 => e17 k (by omega)) ?_ (fun k hk => ?_) (fun k hk => ?_) (fun k hk => ?_)
    · rw [up_n (by omega), up_n (by omega), hd]; unfold g_st; rw [gu_ne (by omega), gu_ne (by omega)]
    · rw [up_n (by omega), up_n (by omega)]; unfold g_st; rw [gu_ne (by omega), gu_ne (by omega)]; exact r0 k hk
    · rw [up_n (by omega)]; unfold g_st; rw [gu_ne (by omega), gu_eq]
      by_cases c : k = m
      · rw [up_s (by omega), if_pos c]
      · rw [up_n (by omega), if_neg c]; exact r1 k hk
    · unfold g_st; rw [gu_eq, gu_ne (by omega)]
      by_cases c : k = m
      · rw [up_s (by omega), if_pos c]
      · rw [up_n (by omega), up_n (by omega), if_neg c]; exact r2 k hk
  obtain ⟨I3, I4, y1, y2, y3, y4, y5⟩ := dy_note (LC := LC) h1 hg2 hl x2 x3 x4 y6 (ML_up h7 (by rw [e17 _ (by omega)]) (by rw [e17 _ (by omega)]) (fun k k1 k2 => e17 k (by omega))) h8 (CP_rd (CP_rd h9 aa w5) aa x5) (MP_eq h10 (by rw [e17 _ (by omega)]) (e17 18 (by omega)) (fun j hj => by rw [up_n (by omega), up_n (by omega)])) sa h0 hlt (pot_mark h2 hf (by unfold g_st; rw [gu_ne (by omega), gu_ne (by omega)]) (fun k => by unfold g_st; rw [gu_eq, gu_ne (by omega)])) n d hn LM (x := 1) (y := m + 1) (z := 0) (by omega) (by omega) (by omega)
  rw [en_s, en_0] at y1 y2
  refine ⟨I3, I4, ?_, ?_, y3, sa, ag_tr (ag_tr (ag_rdC w5) (ag_rdC x5)) (ag_liC y4), ag_tr (ag_up (ag_up ag_rf sDM_17) sDM_17) (ag_nM y5)⟩
  · simp (disch := omega) only [fX11_doStay, zz_lt, li_0, li_1, li_2, li_3, li_4, li_5, li_6, li_7, li_8, li_9, li_10, li_11, li_12, li_15, li_16, li_20, li_21, li_24, li_25, li_26, li_32, li_33, li_38, li_40, li_41, li_42, li_43, li_45, li_47, li_48, li_57, li_58, li_59, li_60, li_61, li_62, li_63, li_74, li_75, li_84, li_91, li_93, li_98, li_100, li_103, li_105, li_107, li_109, li_110, li_111, li_112, li_115, li_118, li_119, li_120, li_121, li_124, li_140, li_180, li_206, li_240, li_255, li_420, li_520, li_999, li_1000, li_1771, li_8240, li_9999, li_88200, li_1000000, li_2097151, li_31, nI_add, pk_mul, zz_sub, zz_an, nI_clamp, zz_leT, zz_leF, zz_ltT, zz_ltF, zz_eqF, zz_eqT, zz_m1, zz_m2, zz_m3, zz_m4, zz_m5, zz_m6, zz_ck, zz_bl, zz_b3, zz_b2, zz_shl, zz_bt0, zz_bt1, pk_div, Nat.zero_add, Nat.add_zero, if_true, if_false, reduceIte, Nat.mul_zero, zz_or0, zz_inT, zz_inF, w1, x1, y1]
  · simp (disch := omega) only [fX12_stayNow, zz_lt, li_0, li_1, li_2, li_3, li_4, li_5, li_6, li_7, li_8, li_9, li_10, li_11, li_12, li_15, li_16, li_20, li_21, li_24, li_25, li_26, li_32, li_33, li_38, li_40, li_41, li_42, li_43, li_45, li_47, li_48, li_57, li_58, li_59, li_60, li_61, li_62, li_63, li_74, li_75, li_84, li_91, li_93, li_98, li_100, li_103, li_105, li_107, li_109, li_110, li_111, li_112, li_115, li_118, li_119, li_120, li_121, li_124, li_140, li_180, li_206, li_240, li_255, li_420, li_520, li_999, li_1000, li_1771, li_8240, li_9999, li_88200, li_1000000, li_2097151, li_31, nI_add, pk_mul, zz_sub, zz_an, nI_clamp, zz_leT, zz_leF, zz_ltT, zz_ltF, zz_eqF, zz_eqT, zz_m1, zz_m2, zz_m3, zz_m4, zz_m5, zz_m6, zz_ck, zz_bl, zz_b3, zz_b2, zz_shl, zz_bt0, zz_bt1, pk_div, Nat.zero_add, Nat.add_zero, if_true, if_false, reduceIte, Nat.mul_zero, zz_or0, zz_inT, zz_inF, r1, y2]
theorem dy_press {IC : am_I} {LC : am_L} {IM : am_I} {W : Nat → (Nat → Nat) → Int32} {q : Nat → Nat} {g : Nat → Nat → Nat} {a : Nat} {K : Nat → Nat → Nat → Nat} {kw l : Nat → Nat} (h : DY IC LC IM W q g a K kw l) (h0 : 0 < a) (hlt : kw a < kw (a - 1) + 9) (n d : Nat) (hn : 10000 < n) (LM : am_L) {m o : Nat} (h2 : m < g 0 0) (ho : o < g 0 0) (hne : m ≠ o) (hf : g 11 m = 0) (hs : 0 < g 10 m) : dyR (fX11_doPress n d (nI m) (nI o) IC LC) (fX12_pressNow n d (nI m) (nI o) IM LM) IC LC IM LM W q g (g_pre g m o) a K kw l (100 * 2 + 10 * (m + 1) + (o + 1)) := by
  obtain ⟨h1, hl, h3, h4, h5, h6, h7, h8, h9, h10⟩ := h
  have gm := h1.1
  have b9 := h1.2.2.2.2.2.2.2.2.1 o ho
  have b3 := h1.2.2.2.2.2.1 m h2
  have aa := h8.1
  obtain ⟨I1, w1, w2, w3, w4, w5⟩ := pc_spend h1 hl n d h3 h4 h5 LC (m := m) h2 hs
  have hg1 := gu10_w h1 (m := m) (v := g 10 m - 1) (by omega)
  have e9 : gu g 10 m (g 10 m - 1) 9 = g 9 := gu_ne (by omega)
  have e0 : gu g 10 m (g 10 m - 1) 0 = g 0 := gu_ne (by omega)
  have e11 : gu g 10 m (g 10 m - 1) 11 = g 11 := gu_ne (by omega)
  have sa1 : SA g (gu g 10 m (g 10 m - 1)) := gu_sa (by omega)
  obtain ⟨I2, v1, v2, v3, v4, v5⟩ := pc_move hg1 hl n d (by omega) w2 w3 w4 LC (m := o) (b := g 3 m) (by rw [e0]; exact ho) (by omega)
  rw [e9] at v2 v4
  have hg2 := gcm_w hg1 (m := o) (s := g 9 o - g 3 m) (by omega)
  obtain ⟨I3, x1, x2, x3, x4, x5⟩ := pc_mark hg2 hl n d v2 v3 v4 LC (m := m) (by rw [gcm_0, e0]; exact h2)
  have sa : SA g (g_pre g m o) := SA_tr (SA_tr sa1 (gcm_sa _ _ _)) (gu_sa (by omega))
  have hg3 : GW (g_pre g m o) := gu11_w hg2 (by omega)
  have c6 := w2.2.2.2.2.2.2.2.1 m (by rw [e0]; exact h2)
  rw [show gu g 10 m (g 10 m - 1) 3 = g 3 from gu_ne (by omega)] at c6
  obtain ⟨hm, hgv, hp, ha, hd, t0, t1, t2, t3, t4, t5, o0, o1, r0, r1, r2⟩ := id h6
  have e17 : ∀ k, k ≠ 17 → am_up (am_up (am_up (am_up IM 17 (8 + m) (nI (g 10 m - 1))) 17 (16 + m) (nI 1)) 17 o (nI (g 9 o - g 3 m))) 17 (8 + o) (nI (gRest g (g 9 o - g 3 m))) k = IM k := fun k hk => by rw [am_up_ne hk, am_up_ne hk, am_up_ne hk, am_up_ne hk]
  have y6 : MS (am_up (am_up (am_up (am_up IM 17 (8 + m) (nI (g 10 m - 1))) 17 (16 + m) (nI 1)) 17 o (nI (g 9 o - g 3 m))) 17 (8 + o) (nI (gRest g (g 9 o - g 3 m)))) (g_pre g m o) := by
    refine MS_mk h6 sa (by rw [e17 _ (by omega)]) (by rw [e17 _ (by omega)]) (fun k k1 k2 => e17 k (by omega)) ?_ (fun k hk => ?_) (fun k hk => ?_) (fun k hk => ?_)
    · rw [up_n (by omega), up_n (by omega), up_n (by omega), up_n (by omega), hd]; unfold g_pre; rw [gu_ne (by omega), gcm_0, e0]
    · rw [up_n (by omega)]; unfold g_pre; rw [gu_ne (by omega), gcm_9, e9]
      by_cases c : k = o
      · rw [up_s c, if_pos c]
      · rw [up_n c, up_n (by omega), up_n (by omega), if_neg c]; exact r0 k hk
    · unfold g_pre; rw [gu_ne (by omega), gcm_10, gRest_sa sa1, gu_eq]
      by_cases c : k = o
      · rw [up_s (by omega), if_pos c]
      · rw [up_n (by omega), up_n (by omega), up_n (by omega), if_neg c]
        by_cases c2 : k = m
        · rw [up_s (by omega), if_pos c2]
        · rw [up_n (by omega), if_neg c2]; exact r1 k hk
    · rw [up_n (by omega), up_n (by omega)]; unfold g_pre; rw [gu_eq, gcm_11, e11]
      by_cases c : k = m
      · rw [up_s (by omega), if_pos c]
      · rw [up_n (by omega), up_n (by omega), if_neg c]; exact r2 k hk
  obtain ⟨I4, I5, y1, y2, y3, y4, y5⟩ := dy_note (LC := LC) h1 hg3 hl x2 x3 x4 y6 (ML_up h7 (by rw [e17 _ (by omega)]) (by rw [e17 _ (by omega)]) (fun k k1 k2 => e17 k (by omega))) h8 (CP_rd (CP_rd (CP_rd h9 aa w5) aa v5) aa x5) (MP_eq h10 (by rw [e17 _ (by omega)]) (e17 18 (by omega)) (fun j hj => by rw [up_n (by omega), up_n (by omega), up_n (by omega), up_n (by omega)])) sa h0 hlt (pot_mark h2 hf (by unfold g_pre; rw [gu_ne (by omega), gcm_0, e0]) (fun k => by unfold g_pre; rw [gu_eq, gcm_11, e11])) n d hn LM (x := 2) (y := m + 1) (z := o + 1) (by omega) (by omega) (by omega)
  rw [en_s, en_s] at y1 y2
  refine ⟨I4, I5, ?_, ?_, y3, sa, ag_tr (ag_tr (ag_tr (ag_rdC w5) (ag_rdC v5)) (ag_rdC x5)) (ag_liC y4), ag_tr (ag_up (ag_up (ag_up (ag_up ag_rf sDM_17) sDM_17) sDM_17) sDM_17) (ag_nM y5)⟩
  · simp (disch := omega) only [fX11_doPress, zz_lt, li_0, li_1, li_2, li_3, li_4, li_5, li_6, li_7, li_8, li_9, li_10, li_11, li_12, li_15, li_16, li_20, li_21, li_24, li_25, li_26, li_32, li_33, li_38, li_40, li_41, li_42, li_43, li_45, li_47, li_48, li_57, li_58, li_59, li_60, li_61, li_62, li_63, li_74, li_75, li_84, li_91, li_93, li_98, li_100, li_103, li_105, li_107, li_109, li_110, li_111, li_112, li_115, li_118, li_119, li_120, li_121, li_124, li_140, li_180, li_206, li_240, li_255, li_420, li_520, li_999, li_1000, li_1771, li_8240, li_9999, li_88200, li_1000000, li_2097151, li_31, nI_add, pk_mul, zz_sub, zz_an, nI_clamp, zz_leT, zz_leF, zz_ltT, zz_ltF, zz_eqF, zz_eqT, zz_m1, zz_m2, zz_m3, zz_m4, zz_m5, zz_m6, zz_ck, zz_bl, zz_b3, zz_b2, zz_shl, zz_bt0, zz_bt1, pk_div, Nat.zero_add, Nat.add_zero, if_true, if_false, reduceIte, Nat.mul_zero, zz_or0, zz_inT, zz_inF, w1, c6, v1, x1, y1]
  · have rs := MS_rest (I' := am_up (am_up (am_up IM 17 (8 + m) (nI (g 10 m - 1))) 17 (16 + m) (nI 1)) 17 o (nI (g 9 o - g 3 m))) h1 h6 (by rw [am_up_ne (by omega), am_up_ne (by omega), am_up_ne (by omega)]) (by rw [am_up_ne (by omega), am_up_ne (by omega), am_up_ne (by omega)]) n d (by omega) LM (s := g 9 o - g 3 m) (by omega)
    have jm := fun I L => J_max0 n d (g 9 o) (g 3 m) I L (by omega) (by omega)
    have es : nI (g 10 m) - nI 1 = nI (g 10 m - 1) := zz_sub (by omega)
    simp (disch := omega) only [fX12_pressNow, fX12_comes, zz_lt, li_0, li_1, li_2, li_3, li_4, li_5, li_6, li_7, li_8, li_9, li_10, li_11, li_12, li_15, li_16, li_20, li_21, li_24, li_25, li_26, li_32, li_33, li_38, li_40, li_41, li_42, li_43, li_45, li_47, li_48, li_57, li_58, li_59, li_60, li_61, li_62, li_63, li_74, li_75, li_84, li_91, li_93, li_98, li_100, li_103, li_105, li_107, li_109, li_110, li_111, li_112, li_115, li_118, li_119, li_120, li_121, li_124, li_140, li_180, li_206, li_240, li_255, li_420, li_520, li_999, li_1000, li_1771, li_8240, li_9999, li_88200, li_1000000, li_2097151, li_31, nI_add, pk_mul, zz_an, nI_clamp, zz_leT, zz_leF, zz_ltT, zz_ltF, zz_eqF, zz_eqT, zz_m1, zz_m2, zz_m3, zz_m4, zz_m5, zz_m6, zz_ck, zz_bl, zz_b3, zz_b2, zz_shl, zz_bt0, zz_bt1, pk_div, Nat.zero_add, Nat.add_zero, if_true, if_false, reduceIte, Nat.mul_zero, zz_or0, zz_inT, zz_inF, r1, r0, t2, es, up_n, am_up_ne, jm, rs, y2]
