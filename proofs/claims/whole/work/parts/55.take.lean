/-! PURE: a war begun: numbers. -/
def gn (g : Nat → Nat → Nat) : Nat → Nat → Nat := fun p q => if p = 9 then g 2 q else if p = 10 then gRest g (g 2 q) else if p = 11 then 0 else if p = 0 ∧ q = 4 then 0 else g p q
theorem gn_sa (g : Nat → Nat → Nat) : SA g (gn g) := by
  refine ⟨fun p h1 h2 h3 h4 => ?_, fun q hq => ?_⟩
  · funext q
    unfold gn
    rw [if_neg h1, if_neg h2, if_neg h3, if_neg (by omega)]
  · unfold gn
    rw [if_neg (by omega), if_neg (by omega), if_neg (by omega), if_neg (by omega)]
theorem gn_9 (g : Nat → Nat → Nat) (m : Nat) : gn g 9 m = g 2 m := rfl
theorem gn_10 (g : Nat → Nat → Nat) (m : Nat) : gn g 10 m = gRest g (g 2 m) := rfl
theorem gn_11 (g : Nat → Nat → Nat) (m : Nat) : gn g 11 m = 0 := rfl
theorem gn_d (g : Nat → Nat → Nat) : gn g 0 4 = 0 := rfl
theorem apt_ne {g : Nat → Nat → Nat} (h8 : ∀ o, o < g 0 1 → 1 ≤ g 8 o) : ∀ i, i ≤ g 0 1 → apt g i = true → ∀ o k, o < i → k < o → g 7 k ≠ g 7 o
  | 0, _, _, o, _, h, _ => by omega
  | i + 1, hi, h, o, k, ho, hk => by
    unfold apt at h
    simp at h
    by_cases c : o = i
    · subst c
      exact (rl_0 (g 7 o) o (fun j hj => h8 j (by omega))).mp h.2 k hk
    · exact apt_ne h8 i (by omega) h.1 o k (by omega) hk
theorem gR_in {g : Nat → Nat → Nat} {s : Nat} : ∀ j i, (∀ k, i ≤ k → k < i + j → g 7 k ≠ s) → gR g s j i = 0
  | 0, _, _ => rfl
  | j + 1, i, h => by
    unfold gR
    rw [if_neg (h i (by omega) (by omega))]
    exact gR_in j (i + 1) (fun k h1 h2 => h k (by omega) (by omega))
theorem gR_at {g : Nat → Nat → Nat} {s o : Nat} (he : g 7 o = s) : ∀ j i, i ≤ o → o < i + j → (∀ k, i ≤ k → k < i + j → g 7 k = s → k = o) → gR g s j i = g 8 o
  | 0, i, h1, h2, _ => by omega
  | j + 1, i, h1, h2, h3 => by
    unfold gR
    by_cases c : g 7 i = s
    · rw [if_pos c, h3 i (by omega) (by omega) c]
    · rw [if_neg c]
      have : i ≠ o := fun z => c (by rw [z]; exact he)
      exact gR_at he j (i + 1) (by omega) (by omega) (fun k a b => h3 k (by omega) (by omega))
theorem rl_at {g : Nat → Nat → Nat} {s o : Nat} (he : g 7 o = s) : ∀ i, o < i → (∀ k, k < i → g 7 k = s → k = o) → rl g s i = g 8 o
  | 0, h, _ => by omega
  | i + 1, h, h3 => by
    unfold rl
    by_cases c : g 7 i = s
    · rw [if_pos c, h3 i (by omega) c]
    · rw [if_neg c]
      have : i ≠ o := fun z => c (by rw [z]; exact he)
      exact rl_at he i (by omega) (fun k hk => h3 k (by omega))
theorem rest_rl {g : Nat → Nat → Nat} (hg : GD g) (ha : apt g (g 0 1) = true) (s : Nat) : gRest g s = rl g s (g 0 1) := by
  have h8 : ∀ o, o < g 0 1 → 1 ≤ g 8 o := fun o ho => (hg.2.2.2.2.2 o ho).2.2.1
  have ne := apt_ne h8 (g 0 1) (Nat.le_refl _) ha
  unfold gRest
  by_cases c : ∃ o, o < g 0 1 ∧ g 7 o = s
  · obtain ⟨o, h1, h2⟩ := c
    have un : ∀ k, k < g 0 1 → g 7 k = s → k = o := fun k hk e => by
      rcases Nat.lt_trichotomy k o with z | z | z
      · exact absurd (e.trans h2.symm) (ne o k h1 z)
      · exact z
      · exact absurd (h2.trans e.symm) (ne k o hk z)
    rw [gR_at h2 (g 0 1) 0 (by omega) (by omega) (fun k _ hk => un k (by omega)), rl_at h2 (g 0 1) h1 un]
  · rw [gR_in (g 0 1) 0 (fun k _ hk z => c ⟨k, by omega, z⟩)]
    exact ((rl_0 s (g 0 1) h8).mpr (fun k hk z => c ⟨k, hk, z⟩)).symm
theorem gn_w {g : Nat → Nat → Nat} (hg : GD g) (hw : whB g = true) : GW (gn g) := by
  obtain ⟨q1, q2, q3, q4, q5, q6⟩ := hg
  unfold whB at hw
  simp at hw
  have ne := apt_ne (fun o ho => (q6 o ho).2.2.1) (g 0 1) (Nat.le_refl _) hw.2.2
  have sa := gn_sa g
  have z0 := sa.2 0 (by omega)
  have z1 := sa.2 1 (by omega)
  have z2 := sa.2 2 (by omega)
  have z3 := sa.2 3 (by omega)
  unfold GW
  rw [z0, z1, z2, z3, sa.1 1 (by omega) (by omega) (by omega) (by omega), sa.1 2 (by omega) (by omega) (by omega) (by omega), sa.1 3 (by omega) (by omega) (by omega) (by omega), sa.1 4 (by omega) (by omega) (by omega) (by omega), sa.1 5 (by omega) (by omega) (by omega) (by omega), sa.1 6 (by omega) (by omega) (by omega) (by omega), sa.1 7 (by omega) (by omega) (by omega) (by omega), sa.1 8 (by omega) (by omega) (by omega) (by omega)]
  refine ⟨q1, q2, q3, q4, by rw [gn_d]; omega, q5, q6, fun o q ho hq e => ?_, fun m hm => ?_, fun _ => ⟨any_ex _ hw.2.1.1, any_ex _ hw.2.1.2⟩⟩
  · rcases Nat.lt_trichotomy o q with z | z | z
    · exact absurd e (ne q o hq z)
    · exact z
    · exact absurd e.symm (ne o q ho z)
  · rw [gn_9, gn_10, gn_11, gRest_sa sa]
    exact ⟨(q5 m hm).2.1, Nat.le_refl _, by omega⟩
/-- places of duels: the first of each step -/
def lwS (g : Nat → Nat → Nat) : Nat → Nat
  | 0 => 0
  | s + 1 => lwS g s + gRest g s + 1
theorem sumR (g : Nat → Nat → Nat) : ∀ (j i : Nat), (∀ o, i ≤ o → o < i + j → g 8 o ≤ 9) → ∀ n, sm (fun s => gR g s j i) n ≤ 9 * j
  | 0, i, _, n => by
    have : sm (fun s => gR g s 0 0) n = 0 := by
      induction n with
      | zero => rfl
      | succ n ih => show sm _ n + 0 = 0; rw [ih]
    have e : sm (fun s => gR g s 0 i) n = sm (fun s => gR g s 0 0) n := sm_ext n (fun _ _ => rfl)
    rw [e, this]
    exact Nat.zero_le _
  | j + 1, i, h, n => by
    have ih := sumR g j (i + 1) (fun o h1 h2 => h o (by omega) (by omega)) n
    have h9 := h i (by omega) (by omega)
    have one : ∀ n, sm (fun s => gR g s (j + 1) i) n ≤ sm (fun s => gR g s j (i + 1)) n + (if g 7 i < n then g 8 i else 0) := fun n => by
      induction n with
      | zero => exact Nat.zero_le _
      | succ n ihn =>
        show sm (fun s => gR g s (j + 1) i) n + gR g n (j + 1) i ≤ sm (fun s => gR g s j (i + 1)) n + gR g n j (i + 1) + _
        have e : gR g n (j + 1) i = if g 7 i = n then g 8 i else gR g n j (i + 1) := rfl
        rw [e]
        by_cases c : g 7 i = n
        · rw [if_pos c, if_pos (by omega)]
          rw [if_neg (by omega)] at ihn
          omega
        · rw [if_neg c]
          by_cases c2 : g 7 i < n
          · rw [if_pos c2] at ihn
            rw [if_pos (by omega)]
            omega
          · rw [if_neg c2] at ihn
            rw [if_neg (by omega)]
            omega
    have := one n
    split at this <;> omega
theorem lwS_sm (g : Nat → Nat → Nat) : ∀ s, lwS g s = sm (fun s => gR g s (g 0 1) 0) s + s
  | 0 => rfl
  | s + 1 => by
    show lwS g s + gRest g s + 1 = sm _ s + gR g s (g 0 1) 0 + (s + 1)
    rw [lwS_sm g s]
    unfold gRest
    omega
theorem lwS_le {g : Nat → Nat → Nat} (hg : GW g) (s : Nat) (hs : s ≤ 21) : lwS g s ≤ 75 := by
  rw [lwS_sm]
  have := sumR g (g 0 1) 0 (fun o _ ho => (hg.2.2.2.2.2.2.1 o (by omega)).2.2.2) s
  have := hg.2.1
  omega
theorem lwS_sa {g g' : Nat → Nat → Nat} (sa : SA g g') : ∀ s, lwS g' s = lwS g s
  | 0 => rfl
  | s + 1 => by
    show lwS g' s + gRest g' s + 1 = _
    rw [lwS_sa sa s, gRest_sa sa]
    rfl
theorem lwS_mono (g : Nat → Nat → Nat) : ∀ s k, lwS g s + k ≤ lwS g (s + k)
  | s, 0 => Nat.le_refl _
  | s, k + 1 => by
    have := lwS_mono g s k
    show lwS g s + (k + 1) ≤ lwS g (s + k) + gRest g (s + k) + 1
    omega
/-- the class's places of duels -/
def DL (I : am_I) (g : Nat → Nat → Nat) : Prop := ∀ s, s ≤ 20 → I 52 s = nI (lwS g s) ∧ I 53 s = nI (lwS g s + gRest g s) ∧ ∀ r, r ≤ gRest g s → I 54 (lwS g s + r) = nI s ∧ I 55 (lwS g s + r) = nI (if s = 0 then 0 else lwS g s - 1)
theorem DL_sa {I : am_I} {g g' : Nat → Nat → Nat} (h : DL I g) (sa : SA g g') : DL I g' := by
  intro s hs
  rw [lwS_sa sa, gRest_sa sa]
  exact h s hs
def sDu (k j : Nat) : Bool := match k with | 52 => true | 53 => true | 54 => true | 55 => true | 51 => true | _ => false
theorem loL20 {g : Nat → Nat → Nat} (hg : GW g) (n d : Nat) (L : am_L) (k4 : Int32 → Int32 → am_I → am_L → Option (am_I × am_L)) {s : Nat} (hs : s ≤ 20) : ∀ (j r F : Nat) (I : am_I), r + j = gRest g s + 1 → j < F → I 12 s = nI (gRest g s) → I 52 s = nI (lwS g s) → (∀ i, i < r → I 54 (lwS g s + i) = nI s ∧ I 55 (lwS g s + i) = nI (if s = 0 then 0 else lwS g s - 1)) → ∃ I', fX0_layOut_war_b20 n d k4 F (nI (lwS g s + r)) (nI s) (nI r) I L = k4 (nI (lwS g (s + 1))) (nI (s + 1)) (am_up I' 53 s (nI (lwS g s + gRest g s))) L ∧ (∀ i, i ≤ gRest g s → I' 54 (lwS g s + i) = nI s ∧ I' 55 (lwS g s + i) = nI (if s = 0 then 0 else lwS g s - 1)) ∧ (∀ k, k ≠ 54 → k ≠ 55 → I' k = I k) ∧ (∀ i, i < lwS g s → I' 54 i = I 54 i ∧ I' 55 i = I 55 i)
  | _, _, 0, _, _, f, _, _, _ => by omega
  | 0, r, F + 1, I, e, f, h12, h52, h => by
    have r9 := gRest_le hg s
    have l75 := lwS_le hg (s + 1) (by omega)
    have ls : lwS g (s + 1) = lwS g s + gRest g s + 1 := rfl
    have e1 : r = gRest g s + 1 := by omega
    subst e1
    refine ⟨I, ?_, fun i hi => h i (by omega), fun _ _ _ => rfl, fun _ _ => ⟨rfl, rfl⟩⟩
    have es : lwS g (s + 1) - 1 = lwS g s + gRest g s := by omega
    have es2 : lwS g s + (gRest g s + 1) = lwS g (s + 1) := by omega
    simp (disch := omega) only [fX0_layOut_war_b20, fX0_layOut_war_b20w, fX0_layOut_war_b75, zz_lt, li_0, li_1, li_2, li_3, li_4, li_5, li_6, li_7, li_8, li_9, li_10, li_11, li_12, li_15, li_16, li_20, li_21, li_24, li_25, li_26, li_32, li_33, li_38, li_40, li_41, li_42, li_43, li_45, li_47, li_48, li_57, li_58, li_59, li_60, li_61, li_62, li_63, li_74, li_75, li_84, li_91, li_93, li_98, li_100, li_103, li_105, li_107, li_109, li_110, li_111, li_112, li_115, li_118, li_119, li_120, li_121, li_124, li_140, li_180, li_206, li_240, li_255, li_420, li_520, li_999, li_1000, li_1771, li_8240, li_9999, li_88200, li_1000000, li_2097151, li_31, nI_add, pk_mul, zz_sub, zz_an, nI_clamp, zz_leT, zz_leF, zz_ltT, zz_ltF, zz_eqF, zz_eqT, zz_m1, zz_m2, zz_m3, zz_m4, zz_m5, zz_m6, zz_ck, zz_bl, zz_b3, zz_b2, zz_shl, zz_bt0, zz_bt1, pk_div, Nat.zero_add, Nat.add_zero, if_true, if_false, reduceIte, Nat.mul_zero, zz_or0, zz_inT, zz_inF, h12, es, es2]
  | j + 1, r, F + 1, I, e, f, h12, h52, h => by
    have r9 := gRest_le hg s
    have l75 := lwS_le hg (s + 1) (by omega)
    have ls : lwS g (s + 1) = lwS g s + gRest g s + 1 := rfl
    have lg : s = 0 ∨ 1 ≤ lwS g s := by
      have := lwS_mono g 0 s
      rw [Nat.zero_add] at this
      omega
    obtain ⟨I', w1, w2, w3, w4⟩ := loL20 hg n d L k4 hs j (r + 1) F (am_up (am_up I 54 (lwS g s + r) (nI s)) 55 (lwS g s + r) (nI (if s = 0 then 0 else lwS g s - 1))) (by omega) (by omega) (by rw [am_up_ne (by omega), am_up_ne (by omega)]; exact h12) (by rw [am_up_ne (by omega), am_up_ne (by omega)]; exact h52) (fun i hi => by
      by_cases c : i = r
      · subst c
        exact ⟨by rw [am_up_ne (by omega), up_s rfl], up_s rfl⟩
      · have := h i (by omega)
        exact ⟨by rw [am_up_ne (by omega), up_n (by omega)]; exact this.1, by rw [up_n (by omega), am_up_ne (by omega)]; exact this.2⟩)
    refine ⟨I', ?_, w2, fun k h1 h2 => by rw [w3 k h1 h2, am_up_ne h2, am_up_ne h1], fun i hi => ⟨by rw [(w4 i hi).1, am_up_ne (by omega), up_n (by omega)], by rw [(w4 i hi).2, up_n (by omega), am_up_ne (by omega)]⟩⟩
    rw [← w1]
    by_cases c : s = 0
    · simp (disch := omega) only [fX0_layOut_war_b20, fX0_layOut_war_b20w, fX0_layOut_war_b65, zz_lt, li_0, li_1, li_2, li_3, li_4, li_5, li_6, li_7, li_8, li_9, li_10, li_11, li_12, li_15, li_16, li_20, li_21, li_24, li_25, li_26, li_32, li_33, li_38, li_40, li_41, li_42, li_43, li_45, li_47, li_48, li_57, li_58, li_59, li_60, li_61, li_62, li_63, li_74, li_75, li_84, li_91, li_93, li_98, li_100, li_103, li_105, li_107, li_109, li_110, li_111, li_112, li_115, li_118, li_119, li_120, li_121, li_124, li_140, li_180, li_206, li_240, li_255, li_420, li_520, li_999, li_1000, li_1771, li_8240, li_9999, li_88200, li_1000000, li_2097151, li_31, nI_add, pk_mul, zz_sub, zz_an, nI_clamp, zz_leT, zz_leF, zz_ltT, zz_ltF, zz_eqF, zz_eqT, zz_m1, zz_m2, zz_m3, zz_m4, zz_m5, zz_m6, zz_ck, zz_bl, zz_b3, zz_b2, zz_shl, zz_bt0, zz_bt1, pk_div, Nat.zero_add, Nat.add_zero, if_true, if_false, reduceIte, Nat.mul_zero, zz_or0, zz_inT, zz_inF, h12, c, Nat.add_assoc]
      subst c
      simp (disch := omega) only [fX0_layOut_war_b20, fX0_layOut_war_b20w, fX0_layOut_war_b65, zz_lt, li_0, li_1, li_2, li_3, li_4, li_5, li_6, li_7, li_8, li_9, li_10, li_11, li_12, li_15, li_16, li_20, li_21, li_24, li_25, li_26, li_32, li_33, li_38, li_40, li_41, li_42, li_43, li_45, li_47, li_48, li_57, li_58, li_59, li_60, li_61, li_62, li_63, li_74, li_75, li_84, li_91, li_93, li_98, li_100, li_103, li_105, li_107, li_109, li_110, li_111, li_112, li_115, li_118, li_119, li_120, li_121, li_124, li_140, li_180, li_206, li_240, li_255, li_420, li_520, li_999, li_1000, li_1771, li_8240, li_9999, li_88200, li_1000000, li_2097151, li_31, nI_add, pk_mul, zz_sub, zz_an, nI_clamp, zz_leT, zz_leF, zz_ltT, zz_ltF, zz_eqF, zz_eqT, zz_m1, zz_m2, zz_m3, zz_m4, zz_m5, zz_m6, zz_ck, zz_bl, zz_b3, zz_b2, zz_shl, zz_bt0, zz_bt1, pk_div, Nat.zero_add, Nat.add_zero, if_true, if_false, reduceIte, Nat.mul_zero, zz_or0, zz_inT, zz_inF, h12, Nat.add_assoc]
    · simp (disch := omega) only [fX0_layOut_war_b20, fX0_layOut_war_b20w, fX0_layOut_war_b65, zz_lt, li_0, li_1, li_2, li_3, li_4, li_5, li_6, li_7, li_8, li_9, li_10, li_11, li_12, li_15, li_16, li_20, li_21, li_24, li_25, li_26, li_32, li_33, li_38, li_40, li_41, li_42, li_43, li_45, li_47, li_48, li_57, li_58, li_59, li_60, li_61, li_62, li_63, li_74, li_75, li_84, li_91, li_93, li_98, li_100, li_103, li_105, li_107, li_109, li_110, li_111, li_112, li_115, li_118, li_119, li_120, li_121, li_124, li_140, li_180, li_206, li_240, li_255, li_420, li_520, li_999, li_1000, li_1771, li_8240, li_9999, li_88200, li_1000000, li_2097151, li_31, nI_add, pk_mul, zz_sub, zz_an, nI_clamp, zz_leT, zz_leF, zz_ltT, zz_ltF, zz_eqF, zz_eqT, zz_m1, zz_m2, zz_m3, zz_m4, zz_m5, zz_m6, zz_ck, zz_bl, zz_b3, zz_b2, zz_shl, zz_bt0, zz_bt1, pk_div, Nat.zero_add, Nat.add_zero, if_true, if_false, reduceIte, Nat.mul_zero, zz_or0, zz_inT, zz_inF, h12, h52, am_up_ne, c, Nat.add_assoc]
theorem loL4 {g : Nat → Nat → Nat} (hg : GW g) (n d : Nat) (hn : 30 < n) (L : am_L) : ∀ (j s F : Nat) (I : am_I), s + j = 21 → j < F → (∀ x, x ≤ 20 → I 12 x = nI (gRest g x)) → (∀ x, x < s → I 52 x = nI (lwS g x) ∧ I 53 x = nI (lwS g x + gRest g x) ∧ ∀ r, r ≤ gRest g x → I 54 (lwS g x + r) = nI x ∧ I 55 (lwS g x + r) = nI (if x = 0 then 0 else lwS g x - 1)) → ∃ I', fX0_layOut_war_b4 n d F (nI (lwS g s)) (nI s) I L = some (am_up (am_up I' 51 8 (nI 0)) 51 9 (nI 0), L) ∧ DL I' g ∧ am_ag sDu I I'
  | _, _, 0, _, _, f, _, _ => by omega
  | 0, s, F + 1, I, e, f, h12, h => by
    refine ⟨I, ?_, fun x hx => h x (by omega), ag_rf⟩
    have l75 := lwS_le hg s (by omega)
    simp (disch := omega) only [fX0_layOut_war_b4, fX0_layOut_war_b4w, zz_lt, li_0, li_1, li_2, li_3, li_4, li_5, li_6, li_7, li_8, li_9, li_10, li_11, li_12, li_15, li_16, li_20, li_21, li_24, li_25, li_26, li_32, li_33, li_38, li_40, li_41, li_42, li_43, li_45, li_47, li_48, li_57, li_58, li_59, li_60, li_61, li_62, li_63, li_74, li_75, li_84, li_91, li_93, li_98, li_100, li_103, li_105, li_107, li_109, li_110, li_111, li_112, li_115, li_118, li_119, li_120, li_121, li_124, li_140, li_180, li_206, li_240, li_255, li_420, li_520, li_999, li_1000, li_1771, li_8240, li_9999, li_88200, li_1000000, li_2097151, li_31, nI_add, pk_mul, zz_sub, zz_an, nI_clamp, zz_leT, zz_leF, zz_ltT, zz_ltF, zz_eqF, zz_eqT, zz_m1, zz_m2, zz_m3, zz_m4, zz_m5, zz_m6, zz_ck, zz_bl, zz_b3, zz_b2, zz_shl, zz_bt0, zz_bt1, pk_div, Nat.zero_add, Nat.add_zero, if_true, if_false, reduceIte, Nat.mul_zero, zz_or0, zz_inT, zz_inF]
  | j + 1, s, F + 1, I, e, f, h12, h => by
    have l75 := lwS_le hg s (by omega)
    have r9 := gRest_le hg s
    obtain ⟨I1, w1, w2, w3, w4⟩ := loL20 hg n d L (fX0_layOut_war_b4 n d F) (s := s) (by omega) (gRest g s + 1) 0 n (am_up I 52 s (nI (lwS g s))) (by omega) (by omega) (by rw [am_up_ne (by omega)]; exact h12 s (by omega)) (up_s rfl) (fun i hi => by omega)
    obtain ⟨I2, v1, v2, v3⟩ := loL4 hg n d hn L j (s + 1) F (am_up I1 53 s (nI (lwS g s + gRest g s))) (by omega) (by omega) (fun x hx => by rw [am_up_ne (by omega), w3 12 (by omega) (by omega), am_up_ne (by omega)]; exact h12 x hx) (fun x hx => by
      by_cases c : x = s
      · subst c
        refine ⟨by rw [am_up_ne (by omega), w3 52 (by omega) (by omega), up_s rfl], up_s rfl, fun r hr => ?_⟩
        rw [am_up_ne (by omega), am_up_ne (by omega)]
        exact w2 r hr
      · obtain ⟨q1, q2, q3⟩ := h x (by omega)
        refine ⟨by rw [am_up_ne (by omega), w3 52 (by omega) (by omega), up_n c]; exact q1, by rw [up_n c, w3 53 (by omega) (by omega), am_up_ne (by omega)]; exact q2, fun r hr => ?_⟩
        have lt : lwS g x + r < lwS g s := by
          have a := lwS_mono g (x + 1) (s - (x + 1))
          rw [show x + 1 + (s - (x + 1)) = s by omega] at a
          have b : lwS g (x + 1) = lwS g x + gRest g x + 1 := rfl
          omega
        rw [am_up_ne (by omega), am_up_ne (by omega), (w4 _ lt).1, (w4 _ lt).2, am_up_ne (by omega), am_up_ne (by omega)]
        exact q3 r hr)
    have ag1 : am_ag sDu I (am_up I 52 s (nI (lwS g s))) := ag_up ag_rf rfl
    have ag2 : am_ag sDu (am_up I 52 s (nI (lwS g s))) I1 := fun k x hk => by
      by_cases c : k = 54
      · subst c; simp [sDu] at hk
      · by_cases c2 : k = 55
        · subst c2; simp [sDu] at hk
        · rw [w3 k c c2]
    have ag3 : am_ag sDu I (am_up I1 53 s (nI (lwS g s + gRest g s))) := ag_up (ag_tr ag1 ag2) rfl
    refine ⟨I2, ?_, v2, ag_tr ag3 v3⟩
    rw [← v1, ← w1]
    simp (disch := omega) only [fX0_layOut_war_b4, fX0_layOut_war_b4w, zz_lt, li_0, li_1, li_2, li_3, li_4, li_5, li_6, li_7, li_8, li_9, li_10, li_11, li_12, li_15, li_16, li_20, li_21, li_24, li_25, li_26, li_32, li_33, li_38, li_40, li_41, li_42, li_43, li_45, li_47, li_48, li_57, li_58, li_59, li_60, li_61, li_62, li_63, li_74, li_75, li_84, li_91, li_93, li_98, li_100, li_103, li_105, li_107, li_109, li_110, li_111, li_112, li_115, li_118, li_119, li_120, li_121, li_124, li_140, li_180, li_206, li_240, li_255, li_420, li_520, li_999, li_1000, li_1771, li_8240, li_9999, li_88200, li_1000000, li_2097151, li_31, nI_add, pk_mul, zz_sub, zz_an, nI_clamp, zz_leT, zz_leF, zz_ltT, zz_ltF, zz_eqF, zz_eqT, zz_m1, zz_m2, zz_m3, zz_m4, zz_m5, zz_m6, zz_ck, zz_bl, zz_b3, zz_b2, zz_shl, zz_bt0, zz_bt1, pk_div, Nat.zero_add, Nat.add_zero, if_true, if_false, reduceIte, Nat.mul_zero, zz_or0, zz_inT, zz_inF]
theorem pc_lay {g : Nat → Nat → Nat} (hg : GW g) (n d : Nat) (hn : 30 < n) (L : am_L) {I : am_I} (h12 : ∀ x, x ≤ 20 → I 12 x = nI (gRest g x)) : ∃ I', fX0_layOut_war n d I L = some (I', L) ∧ DL I' g ∧ am_ag sDu I I' ∧ I' 51 8 = nI 0 := by
  obtain ⟨I1, w1, w2, w3⟩ := loL4 hg n d hn L 21 0 n I (by omega) (by omega) h12 (fun x hx => by omega)
  refine ⟨am_up (am_up I1 51 8 (nI 0)) 51 9 (nI 0), ?_, fun s hs => ?_, ag_up (ag_up w3 rfl) rfl, by rw [up_n (by omega), up_s rfl]⟩
  · unfold fX0_layOut_war
    rw [zz_lt, zz_lt, li_0]
    exact w1
  · simp (disch := omega) only [am_up_ne]
    exact w2 s hs
theorem cy_in {I : am_I} {t0 t1 n j : Nat} (h : j < n) : am_cy I t0 t1 0 0 n t1 j = I t0 j := by
  unfold am_cy
  rw [if_pos rfl, pk_cpy_in (by omega) (by omega), Nat.zero_add, Nat.sub_zero]
theorem cy_ne {I : am_I} {t0 t1 n k : Nat} (h : k ≠ t1) : am_cy I t0 t1 0 0 n k = I k := by
  unfold am_cy
  rw [if_neg h]
def sTk (k j : Nat) : Bool := decide (3 ≤ k ∧ k ≤ 13)
theorem ag_cy {S : Nat → Nat → Bool} {I I' : am_I} {t0 t1 n : Nat} (h : am_ag S I I') (hs : ∀ j, S t1 j = true) : am_ag S I (am_cy I' t0 t1 0 0 n) := by
  intro k j hk
  by_cases c : k = t1
  · subst c; rw [hs j] at hk; cases hk
  · rw [cy_ne c]; exact h k j hk
theorem sTk_t {k j : Nat} (h : 3 ≤ k ∧ k ≤ 13) : sTk k j = true := by simp [sTk, h]
/-- the class takes the draft -/
theorem pc_take {g : Nat → Nat → Nat} {told : Nat} (hg : GD g) (ha : apt g (g 0 1) = true) {I : am_I} (h : DC I g told) (n d : Nat) (L : am_L) : ∃ I', fX9_take_war_draft n d I L = some (I', L) ∧ I' 3 0 = nI (g 0 0) ∧ I' 3 1 = nI (g 0 1) ∧ I' 3 2 = nI (g 0 2) ∧ I' 3 3 = nI (g 0 3) ∧ (∀ m, m < g 0 0 → I' 4 m = nI (g 1 m)) ∧ (∀ m, m < g 0 0 → I' 5 m = nI (g 2 m)) ∧ (∀ m, m < g 0 0 → I' 6 m = nI (g 3 m)) ∧ (∀ m, m < g 0 0 → I' 7 m = nI (g 4 m)) ∧ (∀ m, m < g 0 0 → I' 8 m = nI (g 5 m)) ∧ (∀ m, m < g 0 0 → I' 9 m = nI (g 6 m)) ∧ (∀ m, m < g 0 1 → I' 10 m = nI (g 7 m)) ∧ (∀ m, m < g 0 1 → I' 11 m = nI (g 8 m)) ∧ (∀ s, s ≤ 20 → I' 12 s = nI (gRest g s)) ∧ I' 13 0 = am_bits (fun m => decide (g 1 m = 0)) (g 0 0) ∧ I' 13 1 = am_bits (fun m => decide (g 1 m = 1)) (g 0 0) ∧ am_ag sTk I I' := by
  obtain ⟨d0, d1, d2, d3, d4, d5, e1, e2, e3, e4, e5, e6, f1, f2, f3, s0, s1⟩ := h
  have q1 := hg.1
  have q2 := hg.2.1
  refine ⟨am_cy (am_cy (am_cy (am_cy (am_cy (am_cy (am_cy (am_cy (am_cy (am_cy (am_up (am_up (am_up (am_up I 3 0 (nI (g 0 0))) 3 1 (nI (g 0 1))) 3 2 (nI (g 0 2))) 3 3 (nI (g 0 3))) 15 4 0 0 8) 16 5 0 0 8) 17 6 0 0 8) 18 7 0 0 8) 19 8 0 0 8) 20 9 0 0 8) 21 10 0 0 6) 22 11 0 0 6) 23 12 0 0 21) 24 13 0 0 2, ?_, ?_, ?_, ?_, ?_, fun m hm => ?_, fun m hm => ?_, fun m hm => ?_, fun m hm => ?_, fun m hm => ?_, fun m hm => ?_, fun m hm => ?_, fun m hm => ?_, fun s hs => ?_, ?_, ?_, ?_⟩
  · simp (disch := omega) only [fX9_take_war_draft, zz_lt, li_0, li_1, li_2, li_3, li_4, li_5, li_6, li_7, li_8, li_9, li_10, li_11, li_12, li_15, li_16, li_20, li_21, li_24, li_25, li_26, li_32, li_33, li_38, li_40, li_41, li_42, li_43, li_45, li_47, li_48, li_57, li_58, li_59, li_60, li_61, li_62, li_63, li_74, li_75, li_84, li_91, li_93, li_98, li_100, li_103, li_105, li_107, li_109, li_110, li_111, li_112, li_115, li_118, li_119, li_120, li_121, li_124, li_140, li_180, li_206, li_240, li_255, li_420, li_520, li_999, li_1000, li_1771, li_8240, li_9999, li_88200, li_1000000, li_2097151, li_31, nI_add, pk_mul, zz_sub, zz_an, nI_clamp, zz_leT, zz_leF, zz_ltT, zz_ltF, zz_eqF, zz_eqT, zz_m1, zz_m2, zz_m3, zz_m4, zz_m5, zz_m6, zz_ck, zz_bl, zz_b3, zz_b2, zz_shl, zz_bt0, zz_bt1, pk_div, Nat.zero_add, Nat.add_zero, if_true, if_false, reduceIte, Nat.mul_zero, zz_or0, zz_inT, zz_inF, d0, d1, d2, d3, am_up_ne, zz_cp]
  · simp (disch := omega) only [cy_ne, up_n, up_s]
  · simp (disch := omega) only [cy_ne, up_n, up_s]
  · simp (disch := omega) only [cy_ne, up_n, up_s]
  · simp (disch := omega) only [cy_ne, up_n, up_s]
  · simp (disch := omega) only [cy_ne, cy_in, am_up_ne]; exact e1 m hm
  · simp (disch := omega) only [cy_ne, cy_in, am_up_ne]; exact e2 m hm
  · simp (disch := omega) only [cy_ne, cy_in, am_up_ne]; exact e3 m hm
  · simp (disch := omega) only [cy_ne, cy_in, am_up_ne]; exact e4 m hm
  · simp (disch := omega) only [cy_ne, cy_in, am_up_ne]; exact e5 m hm
  · simp (disch := omega) only [cy_ne, cy_in, am_up_ne]; exact e6 m hm
  · simp (disch := omega) only [cy_ne, cy_in, am_up_ne]; exact f1 m hm
  · simp (disch := omega) only [cy_ne, cy_in, am_up_ne]; exact f2 m hm
  · simp (disch := omega) only [cy_ne, cy_in, am_up_ne]; rw [rest_rl hg ha]; exact f3 s hs
  · simp (disch := omega) only [cy_in, cy_ne, am_up_ne]; exact s0
  · simp (disch := omega) only [cy_in, cy_ne, am_up_ne]; exact s1
  · exact ag_cy (ag_cy (ag_cy (ag_cy (ag_cy (ag_cy (ag_cy (ag_cy (ag_cy (ag_cy (ag_up (ag_up (ag_up (ag_up ag_rf (sTk_t (by omega))) (sTk_t (by omega))) (sTk_t (by omega))) (sTk_t (by omega))) (fun _ => sTk_t (by omega))) (fun _ => sTk_t (by omega))) (fun _ => sTk_t (by omega))) (fun _ => sTk_t (by omega))) (fun _ => sTk_t (by omega))) (fun _ => sTk_t (by omega))) (fun _ => sTk_t (by omega))) (fun _ => sTk_t (by omega))) (fun _ => sTk_t (by omega))) (fun _ => sTk_t (by omega))
