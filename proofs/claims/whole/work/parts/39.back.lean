/-! PURE: back, log, count. -/
theorem pm_backL (n d : Nat) (L : am_L) (I0 : am_I) {x : Int32} (hx : I0 25 24 = x) : ∀ (j k F : Nat) (I : am_I), k + j = 206 → j < F → (∀ y, y < k → I 17 y = I0 25 y) → am_ag s17 I0 I → ∃ I', fX12_back_b11 n d F (nI k) I L = some (x, am_up I' 0 30 (nI 0), L) ∧ (∀ y, y < 206 → I' 17 y = I0 25 y) ∧ am_ag s17 I0 I'
  | _, _, 0, _, _, f, _, _ => by omega
  | 0, k, F + 1, I, e, f, h3, h5 => by
    have e1 : k = 206 := by omega
    subst e1
    have h1 := (h3 24 (by omega)).trans hx
    exact ⟨I, by simp (disch := omega) only [fX12_back_b11, fX12_back_b11w, zz_lt, li_0, li_1, li_2, li_3, li_4, li_5, li_6, li_7, li_8, li_9, li_10, li_11, li_12, li_15, li_16, li_20, li_21, li_24, li_25, li_26, li_32, li_33, li_38, li_40, li_41, li_42, li_43, li_45, li_47, li_48, li_57, li_58, li_59, li_60, li_61, li_62, li_63, li_74, li_75, li_84, li_91, li_93, li_98, li_100, li_103, li_105, li_107, li_109, li_110, li_111, li_112, li_115, li_118, li_119, li_120, li_121, li_124, li_140, li_180, li_206, li_240, li_255, li_420, li_520, li_999, li_1000, li_1771, li_8240, li_9999, li_88200, li_1000000, li_2097151, li_31, nI_add, pk_mul, zz_sub, zz_an, nI_clamp, zz_leT, zz_leF, zz_ltT, zz_ltF, zz_eqF, zz_eqT, zz_m1, zz_m2, zz_m3, zz_m4, zz_m5, zz_m6, zz_ck, zz_bl, zz_b3, zz_b2, zz_shl, zz_bt0, zz_bt1, pk_div, Nat.zero_add, Nat.add_zero, if_true, if_false, reduceIte, Nat.mul_zero, zz_or0, zz_inT, zz_inF, am_up_ne, h1], h3, h5⟩
  | j + 1, k, F + 1, I, e, f, h3, h5 => by
    have h25 : I 25 = I0 25 := funext (fun y => h5 25 y rfl)
    obtain ⟨I', w1, w2⟩ := pm_backL n d L I0 hx j (k + 1) F (am_up I 17 k (I0 25 k)) (by omega) (by omega) (fun y hy => by
      by_cases q : y = k
      · subst q; rw [up_s rfl]
      · rw [up_n q]; exact h3 y (by omega)) (ag_up h5 rfl)
    refine ⟨I', ?_, w2⟩
    rw [← w1]
    simp (disch := omega) only [fX12_back_b11, fX12_back_b11w, zz_lt, li_0, li_1, li_2, li_3, li_4, li_5, li_6, li_7, li_8, li_9, li_10, li_11, li_12, li_15, li_16, li_20, li_21, li_24, li_25, li_26, li_32, li_33, li_38, li_40, li_41, li_42, li_43, li_45, li_47, li_48, li_57, li_58, li_59, li_60, li_61, li_62, li_63, li_74, li_75, li_84, li_91, li_93, li_98, li_100, li_103, li_105, li_107, li_109, li_110, li_111, li_112, li_115, li_118, li_119, li_120, li_121, li_124, li_140, li_180, li_206, li_240, li_255, li_420, li_520, li_999, li_1000, li_1771, li_8240, li_9999, li_88200, li_1000000, li_2097151, li_31, nI_add, pk_mul, zz_sub, zz_an, nI_clamp, zz_leT, zz_leF, zz_ltT, zz_ltF, zz_eqF, zz_eqT, zz_m1, zz_m2, zz_m3, zz_m4, zz_m5, zz_m6, zz_ck, zz_bl, zz_b3, zz_b2, zz_shl, zz_bt0, zz_bt1, pk_div, Nat.zero_add, Nat.add_zero, if_true, if_false, reduceIte, Nat.mul_zero, zz_or0, zz_inT, zz_inF, h25]
def s43 (k j : Nat) : Bool := match k with | 43 => true | _ => false
theorem pc_backL (n d : Nat) (L : am_L) {v : Nat} {e : Nat → Nat} (hv : v ≤ 60) (I0 : am_I) (h42 : I0 42 2 = nI v) (hr : ∀ t, t < v → I0 44 t = nI (e t)) : ∀ (j i F : Nat) (I : am_I), i + j = v → j < F → (∀ y, y < i → I 43 y = nI (e y)) → am_ag s43 I0 I → ∃ I', fX5_bringImageBack_b2 n d F (nI i) I L = some (am_up I' 42 3 (nI v), L) ∧ (∀ y, y < v → I' 43 y = nI (e y)) ∧ am_ag s43 I0 I'
  | _, _, 0, _, _, f, _, _ => by omega
  | 0, i, F + 1, I, ee, f, g3, g5 => by
    have h1 := (g5 42 2 rfl).trans h42
    have e1 : i = v := by omega
    subst e1
    exact ⟨I, by simp (disch := omega) only [fX5_bringImageBack_b2, fX5_bringImageBack_b2w, fX5_bringImageBack_b34, zz_lt, li_0, li_1, li_2, li_3, li_4, li_5, li_6, li_7, li_8, li_9, li_10, li_11, li_12, li_15, li_16, li_20, li_21, li_24, li_25, li_26, li_32, li_33, li_38, li_40, li_41, li_42, li_43, li_45, li_47, li_48, li_57, li_58, li_59, li_60, li_61, li_62, li_63, li_74, li_75, li_84, li_91, li_93, li_98, li_100, li_103, li_105, li_107, li_109, li_110, li_111, li_112, li_115, li_118, li_119, li_120, li_121, li_124, li_140, li_180, li_206, li_240, li_255, li_420, li_520, li_999, li_1000, li_1771, li_8240, li_9999, li_88200, li_1000000, li_2097151, li_31, nI_add, pk_mul, zz_sub, zz_an, nI_clamp, zz_leT, zz_leF, zz_ltT, zz_ltF, zz_eqF, zz_eqT, zz_m1, zz_m2, zz_m3, zz_m4, zz_m5, zz_m6, zz_ck, zz_bl, zz_b3, zz_b2, zz_shl, zz_bt0, zz_bt1, pk_div, Nat.zero_add, Nat.add_zero, if_true, if_false, reduceIte, Nat.mul_zero, zz_or0, zz_inT, zz_inF, h1], g3, g5⟩
  | j + 1, i, F + 1, I, ee, f, g3, g5 => by
    have h1 := (g5 42 2 rfl).trans h42
    have h2 := (g5 44 i rfl).trans (hr i (by omega))
    obtain ⟨I', w1, w2⟩ := pc_backL n d L hv I0 h42 hr j (i + 1) F (am_up I 43 i (nI (e i))) (by omega) (by omega) (fun y hy => by
      by_cases q : y = i
      · subst q; rw [up_s rfl]
      · rw [up_n q]; exact g3 y (by omega)) (ag_up g5 rfl)
    refine ⟨I', ?_, w2⟩
    rw [← w1]
    simp (disch := omega) only [fX5_bringImageBack_b2, fX5_bringImageBack_b2w, zz_lt, li_0, li_1, li_2, li_3, li_4, li_5, li_6, li_7, li_8, li_9, li_10, li_11, li_12, li_15, li_16, li_20, li_21, li_24, li_25, li_26, li_32, li_33, li_38, li_40, li_41, li_42, li_43, li_45, li_47, li_48, li_57, li_58, li_59, li_60, li_61, li_62, li_63, li_74, li_75, li_84, li_91, li_93, li_98, li_100, li_103, li_105, li_107, li_109, li_110, li_111, li_112, li_115, li_118, li_119, li_120, li_121, li_124, li_140, li_180, li_206, li_240, li_255, li_420, li_520, li_999, li_1000, li_1771, li_8240, li_9999, li_88200, li_1000000, li_2097151, li_31, nI_add, pk_mul, zz_sub, zz_an, nI_clamp, zz_leT, zz_leF, zz_ltT, zz_ltF, zz_eqF, zz_eqT, zz_m1, zz_m2, zz_m3, zz_m4, zz_m5, zz_m6, zz_ck, zz_bl, zz_b3, zz_b2, zz_shl, zz_bt0, zz_bt1, pk_div, Nat.zero_add, Nat.add_zero, if_true, if_false, reduceIte, Nat.mul_zero, zz_or0, zz_inT, zz_inF, h1, h2]
theorem op_back {IC : am_I} {LC : am_L} {IM : am_I} {W : Nat → (Nat → Nat) → Int32} {q : Nat → Nat} {g : Nat → Nat → Nat} {a : Nat} {K : Nat → Nat → Nat → Nat} {kw l : Nat → Nat} {b : Nat} {s : Nat → Nat → Nat} {w : Nat} {e : Nat → Nat} (h : DY IC LC IM W q g a K kw l) (hG : GI g b s w e) (hC : CI IC LC (g 0 0) b s w e) (hM : MI IM (g 0 0) b s w e) (LM : am_L) : am_act (fX11_back am_N 1900 IC LC) (fX12_back am_N 1900 IM LM) IC LC IM W q g := by
  obtain ⟨h1, hl, h3, h4, h5, h6, h7, h8, h9, h10⟩ := id h
  have gm := h1.1
  obtain ⟨p1, p2, p3, σ, p4, p5, p6⟩ := id h9
  obtain ⟨m1, m2, m3⟩ := id h10
  have b1 := hG.1
  have i1 := hC.1
  have i2 := hM.1
  by_cases c0 : b = 0
  · refine act_no (r := -nI 1) (LM := LM) h ag_rf ?_ ?_
    · simp (disch := omega) only [fX11_back, zz_lt, li_0, li_1, li_2, li_3, li_4, li_5, li_6, li_7, li_8, li_9, li_10, li_11, li_12, li_15, li_16, li_20, li_21, li_24, li_25, li_26, li_32, li_33, li_38, li_40, li_41, li_42, li_43, li_45, li_47, li_48, li_57, li_58, li_59, li_60, li_61, li_62, li_63, li_74, li_75, li_84, li_91, li_93, li_98, li_100, li_103, li_105, li_107, li_109, li_110, li_111, li_112, li_115, li_118, li_119, li_120, li_121, li_124, li_140, li_180, li_206, li_240, li_255, li_420, li_520, li_999, li_1000, li_1771, li_8240, li_9999, li_88200, li_1000000, li_2097151, li_31, nI_add, pk_mul, zz_sub, zz_an, nI_clamp, zz_leT, zz_leF, zz_ltT, zz_ltF, zz_eqF, zz_eqT, zz_m1, zz_m2, zz_m3, zz_m4, zz_m5, zz_m6, zz_ck, zz_bl, zz_b3, zz_b2, zz_shl, zz_bt0, zz_bt1, pk_div, Nat.zero_add, Nat.add_zero, if_true, if_false, reduceIte, Nat.mul_zero, zz_or0, zz_inT, zz_inF, i1]
    · simp (disch := omega) only [fX12_back, zz_lt, li_0, li_1, li_2, li_3, li_4, li_5, li_6, li_7, li_8, li_9, li_10, li_11, li_12, li_15, li_16, li_20, li_21, li_24, li_25, li_26, li_32, li_33, li_38, li_40, li_41, li_42, li_43, li_45, li_47, li_48, li_57, li_58, li_59, li_60, li_61, li_62, li_63, li_74, li_75, li_84, li_91, li_93, li_98, li_100, li_103, li_105, li_107, li_109, li_110, li_111, li_112, li_115, li_118, li_119, li_120, li_121, li_124, li_140, li_180, li_206, li_240, li_255, li_420, li_520, li_999, li_1000, li_1771, li_8240, li_9999, li_88200, li_1000000, li_2097151, li_31, nI_add, pk_mul, zz_sub, zz_an, nI_clamp, zz_leT, zz_leF, zz_ltT, zz_ltF, zz_eqF, zz_eqT, zz_m1, zz_m2, zz_m3, zz_m4, zz_m5, zz_m6, zz_ck, zz_bl, zz_b3, zz_b2, zz_shl, zz_bt0, zz_bt1, pk_div, Nat.zero_add, Nat.add_zero, if_true, if_false, reduceIte, Nat.mul_zero, zz_or0, zz_inT, zz_inF, i2]
  · have hb : b = 1 := by omega
    obtain ⟨rv, g1, g2, g3⟩ := hG.2 hb
    obtain ⟨⟨k1, k2, k3, k4⟩, k5, k6⟩ := hC.2 hb
    have sn := hM.2 hb
    obtain ⟨I3, w1, w2, w3, w4, w5⟩ := pc_unpack h1 hl rv am_N 1900 am_N2 h3 h4 LC (CH_hi h1 h5)
    obtain ⟨I4, x1, x2, x3⟩ := pc_backL am_N 1900 LC (v := w) (e := e) g1 I3 ((w5 42 2 rfl).trans k5) (fun t ht => (w5 44 t rfl).trans (k6 t ht)) w 0 am_N I3 (by omega) (by unfold am_N; omega) (fun y hy => by omega) ag_rf
    have f395 : I4 39 5 = nI (s 0 4) := by
      rw [x3 39 5 rfl, ← gs_d g s]; exact w2.2.2.2.2.1
    have z0 : gs g s 0 0 = g 0 0 := (gs_sa g s).2 0 (by omega)
    obtain ⟨I5, v1, v2, v3⟩ := pm_backL am_N 1900 LM IM (x := nI (s 0 4)) sn.2.2.2.1 206 0 am_N IM (by omega) (by unfold am_N; omega) (fun y hy => by omega) ag_rf
    have e17 : ∀ k, k ≠ 17 → I5 k = IM k := fun k hk => funext (fun j => v3 k j (by unfold s17; split <;> first | omega | rfl))
    have agC : am_ag sDC IC (am_up (am_up I4 42 3 (nI w)) 45 6 (nI 0)) := by
      refine ag_up (ag_up (ag_tr (ag_rdC w5) (ag_wk x3 (fun k j hk => ?_))) rfl) rfl
      unfold s43
      split
      · rw [sDC_43] at hk; cases hk
      · rfl
    have c43 : ∀ k, k ≠ 42 → k ≠ 43 → k ≠ 45 → am_up (am_up I4 42 3 (nI w)) 45 6 (nI 0) k = I3 k := fun k a1 a2 a3 => by
      rw [am_up_ne a3, am_up_ne a1]
      exact funext (fun j => x3 k j (by unfold s43; split <;> first | omega | rfl))
    refine ⟨nI (s 0 4), am_up (am_up I4 42 3 (nI w)) 45 6 (nI 0), LC, am_up I5 0 30 (nI 0), LM, gs g s, 0, K, fun _ => w, e, ?_, ?_, ⟨GW_mk h1 (gs_sa g _) (gs_rv rv), hl, ?_, ?_, ?_, ?_, ?_, ?_, ?_, ?_⟩, gs_sa g _, agC, aLD_rf, ?_⟩
    · have x1' : fX5_bringImageBack am_N 1900 I3 LC = some (am_up I4 42 3 (nI w), LC) := x1
      simp (disch := omega) only [fX11_back, fX6_bringImageBack_road_logbook, zz_lt, li_0, li_1, li_2, li_3, li_4, li_5, li_6, li_7, li_8, li_9, li_10, li_11, li_12, li_15, li_16, li_20, li_21, li_24, li_25, li_26, li_32, li_33, li_38, li_40, li_41, li_42, li_43, li_45, li_47, li_48, li_57, li_58, li_59, li_60, li_61, li_62, li_63, li_74, li_75, li_84, li_91, li_93, li_98, li_100, li_103, li_105, li_107, li_109, li_110, li_111, li_112, li_115, li_118, li_119, li_120, li_121, li_124, li_140, li_180, li_206, li_240, li_255, li_420, li_520, li_999, li_1000, li_1771, li_8240, li_9999, li_88200, li_1000000, li_2097151, li_31, nI_add, pk_mul, zz_sub, zz_an, nI_clamp, zz_leT, zz_leF, zz_ltT, zz_ltF, zz_eqF, zz_eqT, zz_m1, zz_m2, zz_m3, zz_m4, zz_m5, zz_m6, zz_ck, zz_bl, zz_b3, zz_b2, zz_shl, zz_bt0, zz_bt1, pk_div, Nat.zero_add, Nat.add_zero, if_true, if_false, reduceIte, Nat.mul_zero, zz_or0, zz_inT, zz_inF, i1, hb, k1, k2, k3, k4, w1, x1', am_up_ne, f395]
    · simp (disch := omega) only [fX12_back, zz_lt, li_0, li_1, li_2, li_3, li_4, li_5, li_6, li_7, li_8, li_9, li_10, li_11, li_12, li_15, li_16, li_20, li_21, li_24, li_25, li_26, li_32, li_33, li_38, li_40, li_41, li_42, li_43, li_45, li_47, li_48, li_57, li_58, li_59, li_60, li_61, li_62, li_63, li_74, li_75, li_84, li_91, li_93, li_98, li_100, li_103, li_105, li_107, li_109, li_110, li_111, li_112, li_115, li_118, li_119, li_120, li_121, li_124, li_140, li_180, li_206, li_240, li_255, li_420, li_520, li_999, li_1000, li_1771, li_8240, li_9999, li_88200, li_1000000, li_2097151, li_31, nI_add, pk_mul, zz_sub, zz_an, nI_clamp, zz_leT, zz_leF, zz_ltT, zz_ltF, zz_eqF, zz_eqT, zz_m1, zz_m2, zz_m3, zz_m4, zz_m5, zz_m6, zz_ck, zz_bl, zz_b3, zz_b2, zz_shl, zz_bt0, zz_bt1, pk_div, Nat.zero_add, Nat.add_zero, if_true, if_false, reduceIte, Nat.mul_zero, zz_or0, zz_inT, zz_inF, i2, hb]
      exact v1
    · unfold CS at *
      simp (disch := omega) only [c43]
      exact w2
    · exact CL_up hl w3 (fun k _ _ => c43 k (by omega) (by omega) (by omega))
    · unfold CH
      rw [c43 39 (by omega) (by omega) (by omega)]
      exact w4
    · exact MS_sn gm h6 sn (fun j hj => by rw [am_up_ne (by omega)]; exact v2 j hj) (by rw [up_n (by omega), e17 _ (by omega)]) (by rw [up_n (by omega), e17 _ (by omega)]) (fun k k1 k2 => by rw [am_up_ne (by omega), e17 k (by omega)])
    · exact ML_up h7 (by rw [up_n (by omega), e17 _ (by omega)]) (by rw [up_n (by omega), e17 _ (by omega)]) (fun k k1 k2 => by rw [am_up_ne (by omega), e17 k (by omega)])
    · exact ⟨by omega, fun i hi => by omega, fun i hi => by omega, by rw [z0, gs_pot]; exact g2, g3⟩
    · refine ⟨up_s rfl, by rw [am_up_ne (by omega), up_s rfl], fun t q1 q2 => ?_, σ, p4, ?_, fun i hi => by omega⟩
      · have q2' : t < w := q2
        rw [am_up_ne (by omega), am_up_ne (by omega), Nat.mod_eq_of_lt (by omega)]
        exact x2 t q2'
      · rw [up_n (by omega), am_up_ne (by omega), x3 45 5 rfl, w5 45 5 rfl]
        exact p5
    · rw [z0]
      exact ⟨up_s rfl, fun i hi => by omega, LG_eq sn.2.2.2.2 (fun j _ hj => by rw [am_up_ne (by omega)]; exact v2 j hj)⟩
    · refine ag_up (ag_wk v3 (fun k j hk => ?_)) rfl
      unfold s17
      split
      · rw [sDM_17] at hk; cases hk
      · rfl
theorem zn_m1 (y : Nat) : nI y - nI 1 = zn y := by
  rcases y with _ | y
  · rfl
  · rw [zz_sub (by omega), en_s]; rfl
theorem pc_what (n d : Nat) {x : Nat} (hx : x < 1000) (I : am_I) (L : am_L) : fX5_whatOf n d (nI x) I L = some (nI (x / 100), I, L) := by
  unfold fX5_whatOf
  rw [if_neg (by decide), li_100, pk_div (by omega) (by omega) (by omega)]
theorem pc_who (n d : Nat) {x : Nat} (hx : x < 1000) (I : am_I) (L : am_L) : fX5_whoOf n d (nI x) I L = some (zn (x / 10 % 10), I, L) := by
  unfold fX5_whoOf
  rw [if_neg (by decide), if_neg (by decide), li_10, li_1, pk_div (by omega) (by omega) (by omega), pk_rem (by omega) (by omega) (by omega), zn_m1]
theorem pc_whom (n d : Nat) {x : Nat} (hx : x < 1000) (I : am_I) (L : am_L) : fX5_whomOf n d (nI x) I L = some (zn (x % 10), I, L) := by
  unfold fX5_whomOf
  rw [if_neg (by decide), li_10, li_1, pk_rem (by omega) (by omega) (by omega), zn_m1]
theorem sw_out {β : Type} {e : Int32} {As : List (Option β)} {Z : Option β} (hA : As.length < 1000) (h : e < nI 0 ∨ nI As.length ≤ e) : am_sw e 0 As Z = Z := by
  unfold am_sw
  rcases h with h | h
  · rw [if_pos]
    have := Int32.lt_iff_toInt_lt.mp h
    rw [nI_toInt (by omega)] at this
    exact this
  · have := Int32.le_iff_toInt_le.mp h
    rw [nI_toInt (by omega)] at this
    rw [if_neg (by omega), List.getElem?_eq_none (by omega)]
theorem op_log {IC : am_I} {LC : am_L} {IM : am_I} {W : Nat → (Nat → Nat) → Int32} {q : Nat → Nat} {g : Nat → Nat → Nat} {a : Nat} {K : Nat → Nat → Nat → Nat} {kw l : Nat → Nat} (h : DY IC LC IM W q g a K kw l) (LM : am_L) (e0 e1 : Int32) : am_same (fX11_log am_N 1900 e0 e1 IC LC) (fX12_log am_N 1900 e0 e1 IM LM) IC LC IM LM := by
  obtain ⟨h1, hl, h3, h4, h5, h6, h7, h8, h9, h10⟩ := id h
  obtain ⟨p1, p2, p3, σ, p4, p5, p6⟩ := id h9
  obtain ⟨m1, m2, m3⟩ := id h10
  have pl := pot_le h1 (RV_g h1)
  have kl := h8.2.2.2.1
  have mn := fun I L => J_min am_N 1900 (kw a) 60 I L (by omega) (by omega)
  have lg := m3.1
  rcases ix_of e0 (n := min (kw a) 60) (by omega) with he | ⟨i, hi, rfl⟩
  · refine ⟨(-1000000 : Int32), ?_, ?_⟩
    · unfold fX11_log fX11_log_b15
      by_cases c : e0 < nI 0
      · rw [if_pos (show e0 < (0 : Int32) from c)]
      · rw [if_neg (show ¬ e0 < (0 : Int32) from c)]
        unfold fX5_length
        rw [p2, li_60, mn, zz_b3, zz_b3, if_neg (Int32.not_lt.mpr (he.resolve_left c))]
    · have pi := pm_in0 am_N 1900 IM LM he (by omega)
      unfold fX12_log fX12_log_b52
      refine (zz_cl (a := 25) (by omega)).trans ?_
      rw [show IM 17 ((25 : Int32)).toNatClampNeg = nI (min (kw a) 60) from lg, li_0, li_1, pi, zz_b3, if_pos rfl]
  · have x1 := m3.2 (min (kw a) 60 - 1 - i) (by omega)
    have x2 := p3 (kw a - 1 - i) (by have := (GP_mono h8 a (Nat.le_refl _)).1; omega) (by omega)
    rw [show kw a - min (kw a) 60 + (min (kw a) 60 - 1 - i) = kw a - 1 - i by omega] at x1
    have x3 := h8.2.2.2.2 (kw a - 1 - i)
    have ln := pc_line am_N 1900 (I := IC) LC (W := kw a) (i := i) (by omega) (by omega) p2 x2
    have q1 := pc_what am_N 1900 (x := l (kw a - 1 - i)) (by omega) IC LC
    have q2 := pc_who am_N 1900 (x := l (kw a - 1 - i)) (by omega) IC LC
    have q3 := pc_whom am_N 1900 (x := l (kw a - 1 - i)) (by omega) IC LC
    have sC : fX11_log am_N 1900 (nI i) e1 IC LC = am_sw e1 0 [some (nI (l (kw a - 1 - i) / 100), IC, LC), some (zn (l (kw a - 1 - i) / 10 % 10), IC, LC), some (zn (l (kw a - 1 - i) % 10), IC, LC)] (some ((-1000000 : Int32), IC, LC)) := by
      unfold fX11_log fX5_length
      rw [if_neg (nI_pos (by omega)), p2, li_60, mn, zz_b3, zz_b3, if_pos (nI_lt hi (by omega)), ln, zz_b3]
      show am_sw e1 0 [am_b3 (fX5_whatOf am_N 1900 (nI (l (kw a - 1 - i))) IC LC) _, am_b3 (fX5_whoOf am_N 1900 (nI (l (kw a - 1 - i))) IC LC) _, am_b3 (fX5_whomOf am_N 1900 (nI (l (kw a - 1 - i))) IC LC) _] _ = _
      rw [q1, q2, q3, zz_b3, zz_b3, zz_b3]
    rw [sC]
    have pi := pm_in1 am_N 1900 IM LM hi (by omega)
    rcases ix_of e1 (n := 3) (by omega) with he | ⟨t, ht, rfl⟩
    · refine ⟨(-1000000 : Int32), sw_out (by decide : 3 < 1000) he, ?_⟩
      have pi2 := pm_in0 am_N 1900 IM LM he (by omega)
      rw [show nI 3 - nI 1 = nI 2 from rfl] at pi2
      unfold fX12_log fX12_log_b52
      refine (zz_cl (a := 25) (by omega)).trans ?_
      rw [show IM 17 ((25 : Int32)).toNatClampNeg = nI (min (kw a) 60) from lg, li_0, li_1, pi, zz_b3, if_neg (by decide), li_2, pi2, zz_b3, if_pos rfl]
    · have pi2 := pm_in1 am_N 1900 IM LM ht (by omega)
      rw [show nI 3 - nI 1 = nI 2 from rfl] at pi2
      have sM : fX12_log am_N 1900 (nI i) (nI t) IM LM = some (IM 17 (26 + 3 * (min (kw a) 60 - 1 - i) + t), IM, LM) := by
        simp (disch := omega) only [fX12_log, zz_lt, li_0, li_1, li_2, li_3, li_4, li_5, li_6, li_7, li_8, li_9, li_10, li_11, li_12, li_15, li_16, li_20, li_21, li_24, li_25, li_26, li_32, li_33, li_38, li_40, li_41, li_42, li_43, li_45, li_47, li_48, li_57, li_58, li_59, li_60, li_61, li_62, li_63, li_74, li_75, li_84, li_91, li_93, li_98, li_100, li_103, li_105, li_107, li_109, li_110, li_111, li_112, li_115, li_118, li_119, li_120, li_121, li_124, li_140, li_180, li_206, li_240, li_255, li_420, li_520, li_999, li_1000, li_1771, li_8240, li_9999, li_88200, li_1000000, li_2097151, li_31, nI_add, pk_mul, zz_sub, zz_an, nI_clamp, zz_leT, zz_leF, zz_ltT, zz_ltF, zz_eqF, zz_eqT, zz_m1, zz_m2, zz_m3, zz_m4, zz_m5, zz_m6, zz_ck, zz_bl, zz_b3, zz_b2, zz_shl, zz_bt0, zz_bt1, pk_div, Nat.zero_add, Nat.add_zero, if_true, if_false, reduceIte, Nat.mul_zero, zz_or0, zz_inT, zz_inF, lg, pi, pi2]
      rw [sM]
      match t, ht with
      | 0, _ => exact ⟨_, rfl, by rw [Nat.add_zero, x1.1]⟩
      | 1, _ => exact ⟨_, rfl, by rw [x1.2.1]⟩
      | 2, _ => exact ⟨_, rfl, by rw [x1.2.2]⟩
theorem op_count {IC : am_I} {LC : am_L} {IM : am_I} {W : Nat → (Nat → Nat) → Int32} {q : Nat → Nat} {g : Nat → Nat → Nat} {a : Nat} {K : Nat → Nat → Nat → Nat} {kw l : Nat → Nat} (h : DY IC LC IM W q g a K kw l) {x : Nat → Nat → Nat} (hx : CX IC x) (hx2 : MX IM x) (ht : IC 1 1 = IM 0 2) (LM : am_L) (e : Int32) : am_scr (fX11_count am_N 1900 e IC LC) (fX12_count am_N 1900 e IM LM) IC LC IM LM := by
  obtain ⟨h1, hl, h3, h4, h5, h6, h7, h8, h9, h10⟩ := id h
  have pl := pot_le h1 (RV_g h1)
  have kl := h8.2.2.2.1
  have mn := fun I L => J_min am_N 1900 (kw a) 60 I L (by omega) (by omega)
  rcases ix_of e (n := 12) (by omega) with he | ⟨i, hi, rfl⟩
  · exact ⟨(-1000000 : Int32), IC, IM, sw_out (by decide : 12 < 1000) he, sw_out (by decide : 12 < 1000) he, ag_rf, ag_rf⟩
  · have nop : ∀ r, fX11_count am_N 1900 (nI i) IC LC = some (r, IC, LC) → fX12_count am_N 1900 (nI i) IM LM = some (r, IM, LM) → am_scr (fX11_count am_N 1900 (nI i) IC LC) (fX12_count am_N 1900 (nI i) IM LM) IC LC IM LM := fun r hA hB => ⟨r, IC, IM, hA, hB, ag_rf, ag_rf⟩
    match i, hi with
    | 0, _ => exact nop (IM 0 25) (by show some (IC 3 0, IC, LC) = _; rw [h3.1, h6.1]) rfl
    | 1, _ => exact nop (IM 0 26) (by show some (IC 3 1, IC, LC) = _; rw [h3.2.1, h6.2.1]) rfl
    | 2, _ => exact nop (IM 0 13) (by show some (IC 29 5, IC, LC) = _; rw [h4.1, h7.1]) rfl
    | 3, _ => exact nop (IM 0 2) (by show some (IC 1 1, IC, LC) = _; rw [ht]) rfl
    | 4, _ => exact nop (IM 0 28) (by show some (IC 29 6, IC, LC) = _; rw [h4.2.1, h7.2.1]) rfl
    | 5, _ => exact nop (IM 17 24) (by show some (IC 39 5, IC, LC) = _; rw [h3.2.2.2.2.1, h6.2.2.2.2.1]) (zz_cl (a := 24) (N := 206) (v := IM 17 24) (K := fun v1 => some (v1, IM, LM)) (by omega))
    | 6, _ => exact nop (IM 16 0) (by show some (IC 3 2, IC, LC) = _; rw [h3.2.2.1, h6.2.2.1]) (zz_cl (a := 0) (N := 2) (v := IM 16 0) (K := fun v1 => some (v1, IM, LM)) (by omega))
    | 7, _ => exact nop (IM 16 1) (by show some (IC 3 3, IC, LC) = _; rw [h3.2.2.2.1, h6.2.2.2.1]) (zz_cl (a := 1) (N := 2) (v := IM 16 1) (K := fun v1 => some (v1, IM, LM)) (by omega))
    | 8, _ =>
      obtain ⟨I1, v1, v2⟩ := pm_at h1 hl am_N 1900 am_N2 h6 h7 LM
      refine ⟨IC 39 6, IC, I1, rfl, ?_, ag_rf, v2⟩
      show am_b3 (fX12_atHome am_N 1900 IM LM) (fun v4 I4 L4 => some (v4, I4, L4)) = _
      rw [v1, zz_b3, show IC 39 6 = am_bits (gh W g (q 1)) (g 0 0) from h5]
    | 9, _ => exact nop (IM 0 39) (by show some (IC 60 5, IC, LC) = _; rw [hx.1, hx2.1]) rfl
    | 10, _ =>
      refine nop (IM 17 25) ?_ (zz_cl (a := 25) (N := 206) (v := IM 17 25) (K := fun v1 => some (v1, IM, LM)) (by omega))
      show am_b3 (fX5_length am_N 1900 IC LC) (fun v1 I1 L1 => some (v1, I1, L1)) = _
      unfold fX5_length
      rw [h9.2.1, li_60, mn, zz_b3, zz_b3, h10.2.2.1]
    | 11, _ => exact nop (IM 0 30) (by show some (IC 45 6, IC, LC) = _; rw [h9.1, h10.1]) rfl
