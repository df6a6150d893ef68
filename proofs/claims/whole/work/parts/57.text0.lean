/-! PURE: text(0). -/
def sTm (k j : Nat) : Bool := decide (14 ≤ k ∧ k ≤ 17) || (k == 0 && (j == 25 || j == 26 || j == 39 || j == 30 || j == 43))
theorem sTm_of {k j : Nat} (h : sTm k j = false) : ¬(14 ≤ k ∧ k ≤ 17) ∧ (k = 0 → j ≠ 25 ∧ j ≠ 26 ∧ j ≠ 39 ∧ j ≠ 30 ∧ j ≠ 43) := by
  unfold sTm at h
  rw [Bool.or_eq_false_iff] at h
  refine ⟨by simpa using h.1, fun e => ?_⟩
  subst e
  have := h.2
  simp at this
  omega
theorem pm_take {g : Nat → Nat → Nat} (hg : GD g) (n d : Nat) (hn : 2000 < n) (L : am_L) {J : am_I} (h : DM J g) : ∃ J', fX12_takeWar n d J L = some (nI (g 0 0), J', L) ∧ MS J' (gn g) ∧ J' 17 25 = nI 0 ∧ J' 0 39 = nI 0 ∧ J' 0 30 = nI 0 ∧ J' 0 43 = nI 0 ∧ am_ag sTm J J' := by
  obtain ⟨d0, d1, d2, d3, dm, dq⟩ := h
  obtain ⟨gm, gg, gp, ga, gmn, gor⟩ := hg
  obtain ⟨J0, hJ0⟩ : ∃ J0, J0 = am_up (am_up J 0 25 (nI (g 0 0))) 0 26 (nI (g 0 1)) := ⟨_, rfl⟩
  have z0 : ∀ k, k ≠ 0 → J0 k = J k := fun k hk => by rw [hJ0, am_up_ne hk, am_up_ne hk]
  obtain ⟨J1, a1, a2, _, a4⟩ := tk18 n d L 48 0 n J0 (by omega) (by omega)
  obtain ⟨J2, b1, b2, _, b4⟩ := tk44 n d L 12 0 n J1 (by omega) (by omega)
  obtain ⟨J3, c1, c2, _, c4⟩ := tk94 n d L (M := 206) rfl 206 0 n (am_up (am_up J2 16 0 (J1 13 0)) 16 1 (J1 13 1)) (by omega) (by omega)
  have e0 : J3 0 = J0 0 := by rw [c4 0 (by omega), am_up_ne (by omega), am_up_ne (by omega), b4 0 (by omega), a4 0 (by omega)]
  have e14 : J3 14 = J1 14 := by rw [c4 14 (by omega), am_up_ne (by omega), am_up_ne (by omega), b4 14 (by omega)]
  have e15 : J3 15 = J2 15 := by rw [c4 15 (by omega), am_up_ne (by omega), am_up_ne (by omega)]
  have m14 : ∀ m, m < g 0 0 → ∀ k, k < 6 → J3 14 (6 * m + k) = nI (g (k + 1) m) := fun m hm k hk => by
    rw [e14, a2 _ (by omega) (by omega), z0 11 (by omega)]; exact dm m hm k hk
  have m15 : ∀ m, m < g 0 1 → ∀ k, k < 2 → J3 15 (2 * m + k) = nI (g (k + 7) m) := fun m hm k hk => by
    rw [e15, b2 _ (by omega) (by omega), a4 12 (by omega), z0 12 (by omega)]; exact dq m hm k hk
  have e25 : J3 0 25 = nI (g 0 0) := by rw [e0, hJ0, up_n (by omega), up_s rfl]
  have e26 : J3 0 26 = nI (g 0 1) := by rw [e0, hJ0, up_s rfl]
  obtain ⟨J4, v1, v2, v3, v4⟩ := tk116 gm gg (fun m hm => (gmn m hm).2.1) (fun o ho => (gor o ho).2.1) n d (by omega) L (g 0 0) 0 n J3 (by omega) (by omega) e25 e26 (fun m hm => m15 m hm 0 (by omega)) (fun m hm => m15 m hm 1 (by omega)) (fun m hm => m14 m hm 1 (by omega)) (fun m hm => by omega)
  have sa := gn_sa g
  have zz : ∀ k, k ≠ 0 → am_up (am_up (am_up J4 0 39 (nI 0)) 0 30 (nI 0)) 0 43 (nI 0) k = J4 k := fun k hk => by rw [am_up_ne hk, am_up_ne hk, am_up_ne hk]
  have y0 : ∀ x, x ≠ 39 → x ≠ 30 → x ≠ 43 → am_up (am_up (am_up J4 0 39 (nI 0)) 0 30 (nI 0)) 0 43 (nI 0) 0 x = J3 0 x := fun x p1 p2 p3 => by rw [up_n p3, up_n p2, up_n p1, v4 0 (by omega)]
  refine ⟨am_up (am_up (am_up J4 0 39 (nI 0)) 0 30 (nI 0)) 0 43 (nI 0), ?_, ?_, ?_, ?_, ?_, ?_, fun k j hk => ?_⟩
  · rw [← v1, ← c1, ← b1, ← a1, hJ0]
    simp (disch := omega) only [fX12_takeWar, zz_lt, li_0, li_1, li_2, li_3, li_4, li_5, li_6, li_7, li_8, li_9, li_10, li_11, li_12, li_15, li_16, li_20, li_21, li_24, li_25, li_26, li_32, li_33, li_38, li_40, li_41, li_42, li_43, li_45, li_47, li_48, li_57, li_58, li_59, li_60, li_61, li_62, li_63, li_74, li_75, li_84, li_91, li_93, li_98, li_100, li_103, li_105, li_107, li_109, li_110, li_111, li_112, li_115, li_118, li_119, li_120, li_121, li_124, li_140, li_180, li_206, li_240, li_255, li_420, li_520, li_999, li_1000, li_1771, li_8240, li_9999, li_88200, li_1000000, li_2097151, li_31, nI_add, pk_mul, zz_sub, zz_an, nI_clamp, zz_leT, zz_leF, zz_ltT, zz_ltF, zz_eqF, zz_eqT, zz_m1, zz_m2, zz_m3, zz_m4, zz_m5, zz_m6, zz_ck, zz_bl, zz_b3, zz_b2, zz_shl, zz_bt0, zz_bt1, pk_div, Nat.zero_add, Nat.add_zero, if_true, if_false, reduceIte, Nat.mul_zero, zz_or0, zz_inT, zz_inF, d0, d1, up_n]
  · refine ⟨?_, ?_, ?_, ?_, ?_, fun m hm => ?_, fun m hm => ?_, fun m hm => ?_, fun m hm => ?_, fun m hm => ?_, fun m hm => ?_, fun m hm => ?_, fun m hm => ?_, fun m hm => ?_, fun m hm => ?_, fun m hm => ?_⟩
    · rw [y0 25 (by omega) (by omega) (by omega), e25]; rfl
    · rw [y0 26 (by omega) (by omega) (by omega), e26]; rfl
    · rw [zz 16 (by omega), v4 16 (by omega), c4 16 (by omega), up_n (by omega), up_s rfl, a4 13 (by omega), z0 13 (by omega), d2]; rfl
    · rw [zz 16 (by omega), v4 16 (by omega), c4 16 (by omega), up_s rfl, a4 13 (by omega), z0 13 (by omega), d3]; rfl
    · rw [zz 17 (by omega), v3 24 (by omega), c2 24 (by omega) (by omega)]; rfl
    · rw [zz 14 (by omega), v4 14 (by omega)]; exact m14 m hm 0 (by omega)
    · rw [zz 14 (by omega), v4 14 (by omega)]; exact m14 m hm 1 (by omega)
    · rw [zz 14 (by omega), v4 14 (by omega)]; exact m14 m hm 2 (by omega)
    · rw [zz 14 (by omega), v4 14 (by omega)]; exact m14 m hm 3 (by omega)
    · rw [zz 14 (by omega), v4 14 (by omega)]; exact m14 m hm 4 (by omega)
    · rw [zz 14 (by omega), v4 14 (by omega)]; exact m14 m hm 5 (by omega)
    · rw [zz 15 (by omega), v4 15 (by omega)]; exact m15 m hm 0 (by omega)
    · rw [zz 15 (by omega), v4 15 (by omega)]; exact m15 m hm 1 (by omega)
    · rw [zz 17 (by omega), (v2 m hm).1]; rfl
    · rw [zz 17 (by omega), (v2 m hm).2]; rfl
    · have hm8 : m < g 0 0 := hm
      rw [zz 17 (by omega), v3 (16 + m) (by omega), c2 (16 + m) (by omega) (by omega)]; rfl
  · rw [zz 17 (by omega), v3 25 (by omega), c2 25 (by omega) (by omega)]
  · rw [up_n (by omega), up_n (by omega), up_s rfl]
  · rw [up_n (by omega), up_s rfl]
  · exact up_s rfl
  · obtain ⟨k1, k2⟩ := sTm_of hk
    by_cases c : k = 0
    · subst c
      obtain ⟨j1, j2, j3, j4, j5⟩ := k2 rfl
      rw [y0 j j3 j4 j5, e0, hJ0, up_n j2, up_n j1]
    · rw [zz k c, v4 k (by omega), c4 k (by omega), am_up_ne (by omega), am_up_ne (by omega), b4 k (by omega), a4 k (by omega), z0 k c]
/-- what a new war leaves alone: the class -/
def sBt (k j : Nat) : Bool := scrC k j || decide (3 ≤ k ∧ k ≤ 13) || decide (39 ≤ k ∧ k ≤ 41) || decide (51 ≤ k ∧ k ≤ 55) || (k == 42 && (j == 3 || j == 2)) || (k == 45 && (j == 6 || j == 7)) || (k == 60 && j == 5) || (k == 1 && j == 1)
/-- and the model -/
def sMt (k j : Nat) : Bool := scrM k j || sTm k j || (k == 0 && j == 2)
theorem text0 {n : Nat} {t : Nat → Nat} {W : Nat → (Nat → Nat) → Int32} {q : Nat → Nat} (hG : GT n t) (hl : GL q) (f d : Nat) (hf : 2000 < f) (LC LM : am_L) {I J : am_I} (hI : TC I n t) (hJ : TM J n t) (hL : CL I W q) : ∃ (r : Int32) (I' J' : am_I), fX11_text f d (nI 0) I LC = some (r, I', LC) ∧ fX12_text f d (nI 0) J LM = some (r, J', LM) ∧ ((am_ag scrC I I' ∧ am_ag scrM J J') ∨ ∃ g, GW g ∧ g 0 4 = 0 ∧ (∀ m, g 11 m = 0) ∧ CS I' g ∧ CH I' W q g ∧ MS J' g ∧ DL I' g ∧ I' 51 8 = nI 0 ∧ I' 45 6 = nI 0 ∧ I' 45 7 = nI 0 ∧ I' 42 3 = nI 0 ∧ I' 60 5 = nI 0 ∧ I' 1 1 = nI 0 ∧ J' 0 2 = nI 0 ∧ J' 17 25 = nI 0 ∧ J' 0 39 = nI 0 ∧ J' 0 30 = nI 0 ∧ J' 0 43 = nI 0 ∧ am_ag sBt I I' ∧ am_ag sMt J J') := by
  obtain ⟨r, I1, J1, w1, w2, w3, w4, w5⟩ := war_read hG f d (by omega) LC LM hI hJ
  by_cases hr : r = -nI 1
  · obtain ⟨g, told, gd, dc, dm, wh⟩ := w5 hr
    have hap : apt g (g 0 1) = true := by
      unfold whB at wh
      simp at wh
      exact wh.2.2
    have gw := gn_w gd wh
    have sa := gn_sa g
    have rs : ∀ s, gRest (gn g) s = gRest g s := fun s => gRest_sa sa s
    obtain ⟨I2, t1, h0, h1, h2, h3, r4, r5, r6, r7, r8, r9, r10, r11, r12, s0, s1, t2⟩ := pc_take gd hap dc f d LC
    obtain ⟨I3, u1, u2, u3, u4⟩ := pc_lay gw f d (by omega) LC (I := I2) (fun x hx => by rw [rs]; exact r12 x hx)
    have k3 : ∀ k, k ≤ 50 → I3 k = I2 k := fun k hk => funext (fun j => u3 k j (by
      unfold sDu
      split <;> first | omega | rfl))
    have cl1 : CL I1 W q := CL_up hl hL (fun k a b => by
      by_cases c : k = 30 ∨ k = 29 ∨ k = 31 ∨ k = 32 ∨ k = 33 ∨ k = 34 ∨ k = 35
      · rcases c with c | c | c | c | c | c | c <;> subst c <;> exact funext (fun j => w3 _ j rfl)
      · omega)
    have cl3 : CL I3 W q := CL_up hl cl1 (fun k a b => by
      rw [k3 k (by omega)]
      exact funext (fun j => t2 k j (by unfold sTk; simp; omega)))
    have q3 := k3 3 (by omega)
    obtain ⟨I4, v1, v2, v3, v4⟩ := pc_begin gw hl (gn_9 g) (fun m => by rw [rs]; rfl) (gn_11 g) (gn_d g) f d hf LC cl3 (by rw [q3]; exact h0) (by rw [q3]; exact h1) (by rw [q3]; exact h2) (by rw [q3]; exact h3) (by rw [k3 4 (by omega)]; exact r4) (by rw [k3 5 (by omega)]; exact r5) (by rw [k3 6 (by omega)]; exact r6) (by rw [k3 7 (by omega)]; exact r7) (by rw [k3 8 (by omega)]; exact r8) (by rw [k3 9 (by omega)]; exact r9) (by rw [k3 10 (by omega)]; exact r10) (by rw [k3 11 (by omega)]; exact r11) (fun s hs => by rw [k3 12 (by omega), rs]; exact r12 s hs) (by rw [k3 13 (by omega)]; exact s0) (by rw [k3 13 (by omega)]; exact s1)
    obtain ⟨I5, hI5⟩ : ∃ I5, I5 = am_up (am_up (am_up (am_up (am_up (am_up I4 42 3 (nI 0)) 42 2 (nI 0)) 45 6 (nI 0)) 45 7 (nI 0)) 60 5 (nI 0)) 1 1 (nI 0) := ⟨_, rfl⟩
    have y : ∀ k, k ≠ 42 → k ≠ 45 → k ≠ 60 → k ≠ 1 → I5 k = I4 k := fun k a b c e => by rw [hI5, am_up_ne e, am_up_ne c, am_up_ne b, am_up_ne b, am_up_ne a, am_up_ne a]
    have dmT : DM (am_up J1 0 2 (nI 0)) g := by
      obtain ⟨e1, e2, e3, e4, e5, e6⟩ := dm
      refine ⟨by rw [up_n (by omega)]; exact e1, by rw [up_n (by omega)]; exact e2, by rw [am_up_ne (by omega)]; exact e3, by rw [am_up_ne (by omega)]; exact e4, by rw [am_up_ne (by omega)]; exact e5, by rw [am_up_ne (by omega)]; exact e6⟩
    obtain ⟨J2, x1, x2, x3, x4, x5, x6, x7⟩ := pm_take gd f d hf LM dmT
    have i4 : I4 3 0 = nI (g 0 0) := v2.1
    refine ⟨nI (g 0 0), I5, J2, ?_, ?_, Or.inr ⟨gn g, gw, rfl, fun m => rfl, ?_, ?_, x2, ?_, ?_, ?_, ?_, ?_, ?_, ?_, ?_, x3, x4, x5, x6, fun k j hk => ?_, fun k j hk => ?_⟩⟩
    · have m1 : (-1 : Int32) = -nI 1 := rfl
      rw [hI5]
      simp (disch := omega) only [fX11_text, fX11_beginWar, fX5_clear, fX6_clear, zz_lt, li_0, li_1, li_2, li_3, li_4, li_5, li_6, li_7, li_8, li_9, li_10, li_11, li_12, li_15, li_16, li_20, li_21, li_24, li_25, li_26, li_32, li_33, li_38, li_40, li_41, li_42, li_43, li_45, li_47, li_48, li_57, li_58, li_59, li_60, li_61, li_62, li_63, li_74, li_75, li_84, li_91, li_93, li_98, li_100, li_103, li_105, li_107, li_109, li_110, li_111, li_112, li_115, li_118, li_119, li_120, li_121, li_124, li_140, li_180, li_206, li_240, li_255, li_420, li_520, li_999, li_1000, li_1771, li_8240, li_9999, li_88200, li_1000000, li_2097151, li_31, nI_add, pk_mul, zz_sub, zz_an, nI_clamp, zz_leT, zz_leF, zz_ltT, zz_ltF, zz_eqF, zz_eqT, zz_m1, zz_m2, zz_m3, zz_m4, zz_m5, zz_m6, zz_ck, zz_bl, zz_b3, zz_b2, zz_shl, zz_bt0, zz_bt1, pk_div, Nat.zero_add, Nat.add_zero, if_true, if_false, reduceIte, Nat.mul_zero, zz_or0, zz_inT, zz_inF, w1, hr, t1, u1, v1, am_up_ne, i4]
    · simp (disch := omega) only [fX12_text, zz_lt, li_0, li_1, li_2, li_3, li_4, li_5, li_6, li_7, li_8, li_9, li_10, li_11, li_12, li_15, li_16, li_20, li_21, li_24, li_25, li_26, li_32, li_33, li_38, li_40, li_41, li_42, li_43, li_45, li_47, li_48, li_57, li_58, li_59, li_60, li_61, li_62, li_63, li_74, li_75, li_84, li_91, li_93, li_98, li_100, li_103, li_105, li_107, li_109, li_110, li_111, li_112, li_115, li_118, li_119, li_120, li_121, li_124, li_140, li_180, li_206, li_240, li_255, li_420, li_520, li_999, li_1000, li_1771, li_8240, li_9999, li_88200, li_1000000, li_2097151, li_31, nI_add, pk_mul, zz_sub, zz_an, nI_clamp, zz_leT, zz_leF, zz_ltT, zz_ltF, zz_eqF, zz_eqT, zz_m1, zz_m2, zz_m3, zz_m4, zz_m5, zz_m6, zz_ck, zz_bl, zz_b3, zz_b2, zz_shl, zz_bt0, zz_bt1, pk_div, Nat.zero_add, Nat.add_zero, if_true, if_false, reduceIte, Nat.mul_zero, zz_or0, zz_inT, zz_inF, w2, hr, x1]
    · unfold CS at *
      rw [y 3 (by omega) (by omega) (by omega) (by omega), y 4 (by omega) (by omega) (by omega) (by omega), y 5 (by omega) (by omega) (by omega) (by omega), y 6 (by omega) (by omega) (by omega) (by omega), y 7 (by omega) (by omega) (by omega) (by omega), y 8 (by omega) (by omega) (by omega) (by omega), y 9 (by omega) (by omega) (by omega) (by omega), y 10 (by omega) (by omega) (by omega) (by omega), y 11 (by omega) (by omega) (by omega) (by omega), y 12 (by omega) (by omega) (by omega) (by omega), y 13 (by omega) (by omega) (by omega) (by omega), y 39 (by omega) (by omega) (by omega) (by omega), y 40 (by omega) (by omega) (by omega) (by omega), y 41 (by omega) (by omega) (by omega) (by omega)]
      exact v2
    · unfold CH at *
      rw [y 39 (by omega) (by omega) (by omega) (by omega)]
      exact v3
    · have z : ∀ k, 51 ≤ k → k ≤ 55 → I5 k = I3 k := fun k a b => by
        rw [y k (by omega) (by omega) (by omega) (by omega)]
        exact funext (fun j => v4 k j (by
          have : scrC k j = false := by
            unfold scrC
            split <;> first | omega | rfl
          unfold sBg
          rw [this]
          simp; omega))
      unfold DL at *
      rw [z 52 (by omega) (by omega), z 53 (by omega) (by omega), z 54 (by omega) (by omega), z 55 (by omega) (by omega)]
      exact u2
    · rw [y 51 (by omega) (by omega) (by omega) (by omega), v4 51 8 rfl, u4]
    · rw [hI5, am_up_ne (by omega), am_up_ne (by omega), up_n (by omega), up_s rfl]
    · rw [hI5, am_up_ne (by omega), am_up_ne (by omega), up_s rfl]
    · rw [hI5, am_up_ne (by omega), am_up_ne (by omega), am_up_ne (by omega), am_up_ne (by omega), up_n (by omega), up_s rfl]
    · rw [hI5, am_up_ne (by omega), up_s rfl]
    · rw [hI5, up_s rfl]
    · rw [x7 0 2 rfl, up_s rfl]
    · have b : scrC k j = false ∧ sTk k j = false ∧ ¬(39 ≤ k ∧ k ≤ 41) ∧ ¬(51 ≤ k ∧ k ≤ 55) ∧ ¬(k = 42 ∧ (j = 3 ∨ j = 2)) ∧ ¬(k = 45 ∧ (j = 6 ∨ j = 7)) ∧ ¬(k = 60 ∧ j = 5) ∧ ¬(k = 1 ∧ j = 1) := by
        unfold sBt at hk
        simp only [Bool.or_eq_false_iff] at hk
        obtain ⟨⟨⟨⟨⟨⟨⟨b1, b2⟩, b3⟩, b4⟩, b5⟩, b6⟩, b7⟩, b8⟩ := hk
        refine ⟨b1, b2, by simpa using b3, by simpa using b4, ?_, ?_, ?_, ?_⟩
        · intro z; rw [z.1] at b5; simp at b5; omega
        · intro z; rw [z.1] at b6; simp at b6; omega
        · intro z; rw [z.1] at b7; simp at b7; omega
        · intro z; rw [z.1] at b8; simp at b8; omega
      obtain ⟨b1, b2, b3, b4, b5, b6, b7, b8⟩ := b
      have nu : ∀ (X : am_I) (v : Int32) (k' j' : Nat), ¬(k = k' ∧ j = j') → am_up X k' j' v k j = X k j := fun X v k' j' h => by
        by_cases c : k = k'
        · subst c; exact up_n (fun z => h ⟨rfl, z⟩)
        · rw [am_up_ne c]
      rw [hI5, nu _ _ _ _ b8, nu _ _ _ _ b7, nu _ _ _ _ (fun z => b6 ⟨z.1, Or.inr z.2⟩), nu _ _ _ _ (fun z => b6 ⟨z.1, Or.inl z.2⟩), nu _ _ _ _ (fun z => b5 ⟨z.1, Or.inr z.2⟩), nu _ _ _ _ (fun z => b5 ⟨z.1, Or.inl z.2⟩)]
      rw [v4 k j (by unfold sBg; rw [b1]; simp; omega), u3 k j (by unfold sDu; split <;> first | omega | rfl), t2 k j b2, w3 k j b1]
    · have b : scrM k j = false ∧ sTm k j = false ∧ ¬(k = 0 ∧ j = 2) := by
        unfold sMt at hk
        simp only [Bool.or_eq_false_iff] at hk
        obtain ⟨⟨b1, b2⟩, b3⟩ := hk
        refine ⟨b1, b2, ?_⟩
        intro z; rw [z.1] at b3; simp at b3; omega
      obtain ⟨b1, b2, b3⟩ := b
      rw [x7 k j b2]
      by_cases c : k = 0
      · subst c; rw [up_n (fun z => b3 ⟨rfl, z⟩), w4 _ j b1]
      · rw [am_up_ne c, w4 k j b1]
  · have ne : ¬ r = (-1 : Int32) := hr
    have n01 : ¬ (nI 0 = (1 : Int32)) := by decide
    refine ⟨-nI 1, I1, J1, ?_, ?_, Or.inl ⟨w3, w4⟩⟩
    · unfold fX11_text
      rw [if_pos (show nI 0 = (0 : Int32) from rfl)]
      unfold fX11_beginWar
      rw [w1]
      show am_b3 (if r = (-1 : Int32) then _ else some ((-1 : Int32), I1, LC)) _ = _
      rw [if_neg ne]
      rfl
    · unfold fX12_text
      rw [if_pos (show nI 0 = (0 : Int32) from rfl), w2]
      show (if r = (-1 : Int32) then _ else fX12_text_b22 f d (nI 0) J1 LM) = _
      rw [if_neg ne]
      unfold fX12_text_b22
      rw [if_neg n01]
      rfl
