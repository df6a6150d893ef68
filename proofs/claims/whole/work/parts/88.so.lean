/-! A new war keeps the duels' row of steps within its bounds -/
theorem SO_ne {I I' : am_I} (h : SO I) (e : I' 54 = I 54) : SO I' := fun p hp => by rw [e]; exact h p hp
theorem SO_up {I : am_I} (h : SO I) {s p p' : Nat} {v : Int32} (hs : s ≤ 20) : SO (am_up (am_up I 54 p (nI s)) 55 p' v) := fun x hx => by
  rw [am_up_ne (by omega)]
  by_cases c : x = p
  · subst c
    exact ⟨s, hs, up_s rfl⟩
  · rw [up_n c]
    exact h x hx
theorem soL20 {g : Nat → Nat → Nat} (hg : GW g) (n d : Nat) (L : am_L) (k4 : Int32 → Int32 → am_I → am_L → Option (am_I × am_L)) {s : Nat} (hs : s ≤ 20) : ∀ (j r F : Nat) (I : am_I), r + j = gRest g s + 1 → j < F → I 12 s = nI (gRest g s) → I 52 s = nI (lwS g s) → (∀ i, i < r → I 54 (lwS g s + i) = nI s ∧ I 55 (lwS g s + i) = nI (if s = 0 then 0 else lwS g s - 1)) → ∃ I', fX0_layOut_war_b20 n d k4 F (nI (lwS g s + r)) (nI s) (nI r) I L = k4 (nI (lwS g (s + 1))) (nI (s + 1)) (am_up I' 53 s (nI (lwS g s + gRest g s))) L ∧ (∀ i, i ≤ gRest g s → I' 54 (lwS g s + i) = nI s ∧ I' 55 (lwS g s + i) = nI (if s = 0 then 0 else lwS g s - 1)) ∧ (∀ k, k ≠ 54 → k ≠ 55 → I' k = I k) ∧ (∀ i, i < lwS g s → I' 54 i = I 54 i ∧ I' 55 i = I 55 i) ∧ (SO I → SO I')
  | _, _, 0, _, _, f, _, _, _ => by omega
  | 0, r, F + 1, I, e, f, h12, h52, h => by
    have r9 := gRest_le hg s
    have l75 := lwS_le hg (s + 1) (by omega)
    have ls : lwS g (s + 1) = lwS g s + gRest g s + 1 := rfl
    have e1 : r = gRest g s + 1 := by omega
    subst e1
    refine ⟨I, ?_, fun i hi => h i (by omega), fun _ _ _ => rfl, fun _ _ => ⟨rfl, rfl⟩, id⟩
    have es : lwS g (s + 1) - 1 = lwS g s + gRest g s := by omega
    have es2 : lwS g s + (gRest g s + 1) = lwS g (s + 1) := by omega
    simp (disch := omega) only [fX0_layOut_war_b20, fX0_layOut_war_b20w, fX0_layOut_war_b75, zz_lt, li_0, li_1, li_2, li_3, li_4, li_5, li_6, li_7, li_8, li_9, li_10, li_11, li_12, li_15, li_16, li_20, li_21, li_24, li_25, li_26, li_32, li_33, li_38, li_40, li_41, li_42, li_43, li_45, li_47, li_48, li_57, li_58, li_59, li_60, li_61, li_62, li_63, li_74, li_75, li_84, li_91, li_93, li_98, li_100, li_103, li_105, li_107, li_109, li_110, li_111, li_112, li_115, li_118, li_119, li_120, li_121, li_124, li_140, li_180, li_206, li_240, li_255, li_420, li_520, li_999, li_1000, li_1771, li_8240, li_9999, li_88200, li_1000000, li_2097151, li_31, nI_add, pk_mul, zz_sub, zz_an, nI_clamp, zz_leT, zz_leF, zz_ltT, zz_ltF, zz_eqF, zz_eqT, zz_m1, zz_m2, zz_m3, zz_m4, zz_m5, zz_m6, zz_ck, zz_bl, zz_b3, zz_b2, zz_shl, zz_bt0, zz_bt1, pk_div, Nat.zero_add, Nat.add_zero, if_true, if_false, reduceIte, Nat.mul_zero, zz_or0, zz_inT, zz_inF, h12, es, es2]
  | j + 1, r, F + 1, I, e, f, h12, h52, h => by
    have r9 := gRest_le hg s
    have l75 := lwS_le hg (s + 1) (by omega)
    have ls : lwS g (s + 1) = lwS g s + gRest g s + 1 := rfl
    have lg : s = 0 ∨ 1 ≤ lwS g s := by
      have := lwS_mono g 0 s
      rw [Nat.zero_add] at this
      omega
    obtain ⟨I', w1, w2, w3, w4, w5⟩ := soL20 hg n d L k4 hs j (r + 1) F (am_up (am_up I 54 (lwS g s + r) (nI s)) 55 (lwS g s + r) (nI (if s = 0 then 0 else lwS g s - 1))) (by omega) (by omega) (by rw [am_up_ne (by omega), am_up_ne (by omega)]; exact h12) (by rw [am_up_ne (by omega), am_up_ne (by omega)]; exact h52) (fun i hi => by
      by_cases c : i = r
      · subst c
        exact ⟨by rw [am_up_ne (by omega), up_s rfl], up_s rfl⟩
      · have := h i (by omega)
        exact ⟨by rw [am_up_ne (by omega), up_n (by omega)]; exact this.1, by rw [up_n (by omega), am_up_ne (by omega)]; exact this.2⟩)
    refine ⟨I', ?_, w2, fun k h1 h2 => by rw [w3 k h1 h2, am_up_ne h2, am_up_ne h1], fun i hi => ⟨by rw [(w4 i hi).1, am_up_ne (by omega), up_n (by omega)], by rw [(w4 i hi).2, up_n (by omega), am_up_ne (by omega)]⟩, fun so => w5 (SO_up so (by omega))⟩
    rw [← w1]
    by_cases c : s = 0
    · simp (disch := omega) only [fX0_layOut_war_b20, fX0_layOut_war_b20w, fX0_layOut_war_b65, zz_lt, li_0, li_1, li_2, li_3, li_4, li_5, li_6, li_7, li_8, li_9, li_10, li_11, li_12, li_15, li_16, li_20, li_21, li_24, li_25, li_26, li_32, li_33, li_38, li_40, li_41, li_42, li_43, li_45, li_47, li_48, li_57, li_58, li_59, li_60, li_61, li_62, li_63, li_74, li_75, li_84, li_91, li_93, li_98, li_100, li_103, li_105, li_107, li_109, li_110, li_111, li_112, li_115, li_118, li_119, li_120, li_121, li_124, li_140, li_180, li_206, li_240, li_255, li_420, li_520, li_999, li_1000, li_1771, li_8240, li_9999, li_88200, li_1000000, li_2097151, li_31, nI_add, pk_mul, zz_sub, zz_an, nI_clamp, zz_leT, zz_leF, zz_ltT, zz_ltF, zz_eqF, zz_eqT, zz_m1, zz_m2, zz_m3, zz_m4, zz_m5, zz_m6, zz_ck, zz_bl, zz_b3, zz_b2, zz_shl, zz_bt0, zz_bt1, pk_div, Nat.zero_add, Nat.add_zero, if_true, if_false, reduceIte, Nat.mul_zero, zz_or0, zz_inT, zz_inF, h12, c, Nat.add_assoc]
      subst c
      simp (disch := omega) only [fX0_layOut_war_b20, fX0_layOut_war_b20w, fX0_layOut_war_b65, zz_lt, li_0, li_1, li_2, li_3, li_4, li_5, li_6, li_7, li_8, li_9, li_10, li_11, li_12, li_15, li_16, li_20, li_21, li_24, li_25, li_26, li_32, li_33, li_38, li_40, li_41, li_42, li_43, li_45, li_47, li_48, li_57, li_58, li_59, li_60, li_61, li_62, li_63, li_74, li_75, li_84, li_91, li_93, li_98, li_100, li_103, li_105, li_107, li_109, li_110, li_111, li_112, li_115, li_118, li_119, li_120, li_121, li_124, li_140, li_180, li_206, li_240, li_255, li_420, li_520, li_999, li_1000, li_1771, li_8240, li_9999, li_88200, li_1000000, li_2097151, li_31, nI_add, pk_mul, zz_sub, zz_an, nI_clamp, zz_leT, zz_leF, zz_ltT, zz_ltF, zz_eqF, zz_eqT, zz_m1, zz_m2, zz_m3, zz_m4, zz_m5, zz_m6, zz_ck, zz_bl, zz_b3, zz_b2, zz_shl, zz_bt0, zz_bt1, pk_div, Nat.zero_add, Nat.add_zero, if_true, if_false, reduceIte, Nat.mul_zero, zz_or0, zz_inT, zz_inF, h12, Nat.add_assoc]
    · simp (disch := omega) only [fX0_layOut_war_b20, fX0_layOut_war_b20w, fX0_layOut_war_b65, zz_lt, li_0, li_1, li_2, li_3, li_4, li_5, li_6, li_7, li_8, li_9, li_10, li_11, li_12, li_15, li_16, li_20, li_21, li_24, li_25, li_26, li_32, li_33, li_38, li_40, li_41, li_42, li_43, li_45, li_47, li_48, li_57, li_58, li_59, li_60, li_61, li_62, li_63, li_74, li_75, li_84, li_91, li_93, li_98, li_100, li_103, li_105, li_107, li_109, li_110, li_111, li_112, li_115, li_118, li_119, li_120, li_121, li_124, li_140, li_180, li_206, li_240, li_255, li_420, li_520, li_999, li_1000, li_1771, li_8240, li_9999, li_88200, li_1000000, li_2097151, li_31, nI_add, pk_mul, zz_sub, zz_an, nI_clamp, zz_leT, zz_leF, zz_ltT, zz_ltF, zz_eqF, zz_eqT, zz_m1, zz_m2, zz_m3, zz_m4, zz_m5, zz_m6, zz_ck, zz_bl, zz_b3, zz_b2, zz_shl, zz_bt0, zz_bt1, pk_div, Nat.zero_add, Nat.add_zero, if_true, if_false, reduceIte, Nat.mul_zero, zz_or0, zz_inT, zz_inF, h12, h52, am_up_ne, c, Nat.add_assoc]
theorem soL4 {g : Nat → Nat → Nat} (hg : GW g) (n d : Nat) (hn : 30 < n) (L : am_L) : ∀ (j s F : Nat) (I : am_I), s + j = 21 → j < F → (∀ x, x ≤ 20 → I 12 x = nI (gRest g x)) → (∀ x, x < s → I 52 x = nI (lwS g x) ∧ I 53 x = nI (lwS g x + gRest g x) ∧ ∀ r, r ≤ gRest g x → I 54 (lwS g x + r) = nI x ∧ I 55 (lwS g x + r) = nI (if x = 0 then 0 else lwS g x - 1)) → ∃ I', fX0_layOut_war_b4 n d F (nI (lwS g s)) (nI s) I L = some (am_up (am_up I' 51 8 (nI 0)) 51 9 (nI 0), L) ∧ DL I' g ∧ am_ag sDu I I' ∧ (SO I → SO I')
  | _, _, 0, _, _, f, _, _ => by omega
  | 0, s, F + 1, I, e, f, h12, h => by
    refine ⟨I, ?_, fun x hx => h x (by omega), ag_rf, id⟩
    have l75 := lwS_le hg s (by omega)
    simp (disch := omega) only [fX0_layOut_war_b4, fX0_layOut_war_b4w, zz_lt, li_0, li_1, li_2, li_3, li_4, li_5, li_6, li_7, li_8, li_9, li_10, li_11, li_12, li_15, li_16, li_20, li_21, li_24, li_25, li_26, li_32, li_33, li_38, li_40, li_41, li_42, li_43, li_45, li_47, li_48, li_57, li_58, li_59, li_60, li_61, li_62, li_63, li_74, li_75, li_84, li_91, li_93, li_98, li_100, li_103, li_105, li_107, li_109, li_110, li_111, li_112, li_115, li_118, li_119, li_120, li_121, li_124, li_140, li_180, li_206, li_240, li_255, li_420, li_520, li_999, li_1000, li_1771, li_8240, li_9999, li_88200, li_1000000, li_2097151, li_31, nI_add, pk_mul, zz_sub, zz_an, nI_clamp, zz_leT, zz_leF, zz_ltT, zz_ltF, zz_eqF, zz_eqT, zz_m1, zz_m2, zz_m3, zz_m4, zz_m5, zz_m6, zz_ck, zz_bl, zz_b3, zz_b2, zz_shl, zz_bt0, zz_bt1, pk_div, Nat.zero_add, Nat.add_zero, if_true, if_false, reduceIte, Nat.mul_zero, zz_or0, zz_inT, zz_inF]
  | j + 1, s, F + 1, I, e, f, h12, h => by
    have l75 := lwS_le hg s (by omega)
    have r9 := gRest_le hg s
    obtain ⟨I1, w1, w2, w3, w4, w5⟩ := soL20 hg n d L (fX0_layOut_war_b4 n d F) (s := s) (by omega) (gRest g s + 1) 0 n (am_up I 52 s (nI (lwS g s))) (by omega) (by omega) (by rw [am_up_ne (by omega)]; exact h12 s (by omega)) (up_s rfl) (fun i hi => by omega)
    obtain ⟨I2, v1, v2, v3, v4⟩ := soL4 hg n d hn L j (s + 1) F (am_up I1 53 s (nI (lwS g s + gRest g s))) (by omega) (by omega) (fun x hx => by rw [am_up_ne (by omega), w3 12 (by omega) (by omega), am_up_ne (by omega)]; exact h12 x hx) (fun x hx => by
      by_cases c : x = s
      · subst c
        refine ⟨by rw [am_up_ne (by omega), w3 52 (by omega) (by omega), up_s rfl], up_s rfl, fun r hr => ?_⟩
        rw [am_up_ne (by omega), am_up_ne (by omega)]
        exact w2 r hr
      · obtain ⟨q1, q2, q3⟩ := h x (by omega)
        refine ⟨by rw [am_up_ne (by omega), w3 52 (by omega) (by omega), up_n c]; exact q1, by rw [up_n c, w3 53 (by omega) (by omega), am_up_ne (by omega)]; exact q2, fun r hr => ?_⟩
        have lt : lwS g x + r < lwS g s := by
          have a := lwS_mono g (x + 1) (s - (x + 1))
          rw [show x + 1 + (s - (x + 1)) = s by omega] at a
          have b : lwS g (x + 1) = lwS g x + gRest g x + 1 := rfl
          omega
        rw [am_up_ne (by omega), am_up_ne (by omega), (w4 _ lt).1, (w4 _ lt).2, am_up_ne (by omega), am_up_ne (by omega)]
        exact q3 r hr)
    have ag1 : am_ag sDu I (am_up I 52 s (nI (lwS g s))) := ag_up ag_rf rfl
    have ag2 : am_ag sDu (am_up I 52 s (nI (lwS g s))) I1 := fun k x hk => by
      by_cases c : k = 54
      · subst c; simp [sDu] at hk
      · by_cases c2 : k = 55
        · subst c2; simp [sDu] at hk
        · rw [w3 k c c2]
    have ag3 : am_ag sDu I (am_up I1 53 s (nI (lwS g s + gRest g s))) := ag_up (ag_tr ag1 ag2) rfl
    refine ⟨I2, ?_, v2, ag_tr ag3 v3, fun so => v4 (SO_ne (w5 (SO_ne so (am_up_ne (by omega)))) (am_up_ne (by omega)))⟩
    rw [← v1, ← w1]
    simp (disch := omega) only [fX0_layOut_war_b4, fX0_layOut_war_b4w, zz_lt, li_0, li_1, li_2, li_3, li_4, li_5, li_6, li_7, li_8, li_9, li_10, li_11, li_12, li_15, li_16, li_20, li_21, li_24, li_25, li_26, li_32, li_33, li_38, li_40, li_41, li_42, li_43, li_45, li_47, li_48, li_57, li_58, li_59, li_60, li_61, li_62, li_63, li_74, li_75, li_84, li_91, li_93, li_98, li_100, li_103, li_105, li_107, li_109, li_110, li_111, li_112, li_115, li_118, li_119, li_120, li_121, li_124, li_140, li_180, li_206, li_240, li_255, li_420, li_520, li_999, li_1000, li_1771, li_8240, li_9999, li_88200, li_1000000, li_2097151, li_31, nI_add, pk_mul, zz_sub, zz_an, nI_clamp, zz_leT, zz_leF, zz_ltT, zz_ltF, zz_eqF, zz_eqT, zz_m1, zz_m2, zz_m3, zz_m4, zz_m5, zz_m6, zz_ck, zz_bl, zz_b3, zz_b2, zz_shl, zz_bt0, zz_bt1, pk_div, Nat.zero_add, Nat.add_zero, if_true, if_false, reduceIte, Nat.mul_zero, zz_or0, zz_inT, zz_inF]
theorem pc_layS {g : Nat → Nat → Nat} (hg : GW g) (n d : Nat) (hn : 30 < n) (L : am_L) {I : am_I} (h12 : ∀ x, x ≤ 20 → I 12 x = nI (gRest g x)) : ∃ I', fX0_layOut_war n d I L = some (I', L) ∧ DL I' g ∧ am_ag sDu I I' ∧ I' 51 8 = nI 0 ∧ (SO I → SO I') := by
  obtain ⟨I1, w1, w2, w3, w4⟩ := soL4 hg n d hn L 21 0 n I (by omega) (by omega) h12 (fun x hx => by omega)
  refine ⟨am_up (am_up I1 51 8 (nI 0)) 51 9 (nI 0), ?_, fun s hs => ?_, ag_up (ag_up w3 rfl) rfl, by rw [up_n (by omega), up_s rfl], fun so => SO_ne (w4 so) (by rw [am_up_ne (by omega), am_up_ne (by omega)])⟩
  · unfold fX0_layOut_war
    rw [zz_lt, zz_lt, li_0]
    exact w1
  · simp (disch := omega) only [am_up_ne]
    exact w2 s hs
theorem text0S {n : Nat} {t : Nat → Nat} {W : Nat → (Nat → Nat) → Int32} {q : Nat → Nat} (hG : GT n t) (hl : GL q) (f d : Nat) (hf : 2000 < f) (LC LM : am_L) {I J : am_I} (hI : TC I n t) (hJ : TM J n t) (hL : CL I W q) (so : SO I) : ∃ (r : Int32) (I' : am_I), fX11_text f d (nI 0) I LC = some (r, I', LC) ∧ SO I' := by
  obtain ⟨r, I1, J1, w1, w2, w3, w4, w5⟩ := war_read hG f d (by omega) LC LM hI hJ
  by_cases hr : r = -nI 1
  · obtain ⟨g, told, gd, dc, dm, wh⟩ := w5 hr
    have hap : apt g (g 0 1) = true := by
      unfold whB at wh
      simp at wh
      exact wh.2.2
    have gw := gn_w gd wh
    have sa := gn_sa g
    have rs : ∀ s, gRest (gn g) s = gRest g s := fun s => gRest_sa sa s
    obtain ⟨I2, t1, h0, h1, h2, h3, r4, r5, r6, r7, r8, r9, r10, r11, r12, s0, s1, t2⟩ := pc_take gd hap dc f d LC
    obtain ⟨I3, u1, u2, u3, u4, u5⟩ := pc_layS gw f d (by omega) LC (I := I2) (fun x hx => by rw [rs]; exact r12 x hx)
    have k3 : ∀ k, k ≤ 50 → I3 k = I2 k := fun k hk => funext (fun j => u3 k j (by
      unfold sDu
      split <;> first | omega | rfl))
    have cl1 : CL I1 W q := CL_up hl hL (fun k a b => by
      by_cases c : k = 30 ∨ k = 29 ∨ k = 31 ∨ k = 32 ∨ k = 33 ∨ k = 34 ∨ k = 35
      · rcases c with c | c | c | c | c | c | c <;> subst c <;> exact funext (fun j => w3 _ j rfl)
      · omega)
    have cl3 : CL I3 W q := CL_up hl cl1 (fun k a b => by
      rw [k3 k (by omega)]
      exact funext (fun j => t2 k j (by unfold sTk; simp; omega)))
    have q3 := k3 3 (by omega)
    obtain ⟨I4, v1, v2, v3, v4⟩ := pc_begin gw hl (gn_9 g) (fun m => by rw [rs]; rfl) (gn_11 g) (gn_d g) f d hf LC cl3 (by rw [q3]; exact h0) (by rw [q3]; exact h1) (by rw [q3]; exact h2) (by rw [q3]; exact h3) (by rw [k3 4 (by omega)]; exact r4) (by rw [k3 5 (by omega)]; exact r5) (by rw [k3 6 (by omega)]; exact r6) (by rw [k3 7 (by omega)]; exact r7) (by rw [k3 8 (by omega)]; exact r8) (by rw [k3 9 (by omega)]; exact r9) (by rw [k3 10 (by omega)]; exact r10) (by rw [k3 11 (by omega)]; exact r11) (fun s hs => by rw [k3 12 (by omega), rs]; exact r12 s hs) (by rw [k3 13 (by omega)]; exact s0) (by rw [k3 13 (by omega)]; exact s1)
    obtain ⟨I5, hI5⟩ : ∃ I5, I5 = am_up (am_up (am_up (am_up (am_up (am_up I4 42 3 (nI 0)) 42 2 (nI 0)) 45 6 (nI 0)) 45 7 (nI 0)) 60 5 (nI 0)) 1 1 (nI 0) := ⟨_, rfl⟩
    have y : ∀ k, k ≠ 42 → k ≠ 45 → k ≠ 60 → k ≠ 1 → I5 k = I4 k := fun k a b c e => by rw [hI5, am_up_ne e, am_up_ne c, am_up_ne b, am_up_ne b, am_up_ne a, am_up_ne a]
    have i4 : I4 3 0 = nI (g 0 0) := v2.1
    refine ⟨nI (g 0 0), I5, ?_, ?_⟩
    · have m1 : (-1 : Int32) = -nI 1 := rfl
      rw [hI5]
      simp (disch := omega) only [fX11_text, fX11_beginWar, fX5_clear, fX6_clear, zz_lt, li_0, li_1, li_2, li_3, li_4, li_5, li_6, li_7, li_8, li_9, li_10, li_11, li_12, li_15, li_16, li_20, li_21, li_24, li_25, li_26, li_32, li_33, li_38, li_40, li_41, li_42, li_43, li_45, li_47, li_48, li_57, li_58, li_59, li_60, li_61, li_62, li_63, li_74, li_75, li_84, li_91, li_93, li_98, li_100, li_103, li_105, li_107, li_109, li_110, li_111, li_112, li_115, li_118, li_119, li_120, li_121, li_124, li_140, li_180, li_206, li_240, li_255, li_420, li_520, li_999, li_1000, li_1771, li_8240, li_9999, li_88200, li_1000000, li_2097151, li_31, nI_add, pk_mul, zz_sub, zz_an, nI_clamp, zz_leT, zz_leF, zz_ltT, zz_ltF, zz_eqF, zz_eqT, zz_m1, zz_m2, zz_m3, zz_m4, zz_m5, zz_m6, zz_ck, zz_bl, zz_b3, zz_b2, zz_shl, zz_bt0, zz_bt1, pk_div, Nat.zero_add, Nat.add_zero, if_true, if_false, reduceIte, Nat.mul_zero, zz_or0, zz_inT, zz_inF, w1, hr, t1, u1, v1, am_up_ne, i4]
    · have so2 : SO I2 := SO_ne so (by
        funext j
        rw [t2 54 j rfl, w3 54 j rfl])
      refine SO_ne (u5 so2) ?_
      rw [y 54 (by omega) (by omega) (by omega) (by omega)]
      funext j
      exact v4 54 j rfl
  · have ne : ¬ r = (-1 : Int32) := hr
    refine ⟨-nI 1, I1, ?_, SO_ne so (funext (fun j => w3 54 j rfl))⟩
    unfold fX11_text
    rw [if_pos (show nI 0 = (0 : Int32) from rfl)]
    unfold fX11_beginWar
    rw [w1]
    show am_b3 (if r = (-1 : Int32) then _ else some ((-1 : Int32), I1, LC)) _ = _
    rw [if_neg ne]
    rfl
