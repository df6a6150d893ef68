/-! THE DUTIES of feed, end and the duels, and the start -/
theorem b255 (x : Int32) : ∃ k, k ≤ 255 ∧ x &&& 255 = nI k := by
  refine ⟨(x &&& 255).toBitVec.toNat, ?_, ?_⟩
  · rw [Int32.toBitVec_and, BitVec.toNat_and]
    exact Nat.and_le_right
  · apply Int32.toBitVec_inj.mp
    show _ = BitVec.ofNat 32 _
    rw [BitVec.ofNat_toNat, BitVec.setWidth_eq]
def bys (q : Nat × (Nat → Int32)) : Prop := ∀ j, j < q.1 → ∃ k, k ≤ 255 ∧ q.2 j = nI k
theorem tp_ok (B : Nat → Int32) (hB : ∀ j, ∃ k, k ≤ 255 ∧ B j = nI k) : ∀ (i j : Nat) (q : Nat × (Nat → Int32)), bys q → bys (tp_f B i j q) ∧ (tp_f B i j q).1 = q.1 + tp_n B i j
  | 0, _, q, h => ⟨h, rfl⟩
  | i + 1, j, q, h => by
    have hp : bys (tp_p q (B j)) := by
      unfold tp_p
      split
      · exact h
      · intro m hm
        have hm' : m < q.1 + 1 := hm
        show ∃ k, k ≤ 255 ∧ upd q.2 q.1 (B j) m = nI k
        unfold upd
        split
        · exact hB j
        · exact h m (by omega)
    obtain ⟨w1, w2⟩ := tp_ok B hB i (j + 1) _ hp
    refine ⟨w1, ?_⟩
    show (tp_f B i (j + 1) (tp_p q (B j))).1 = q.1 + (tp_c (B j) + tp_n B i (j + 1))
    rw [w2, tp_p_len]
    omega
theorem ag_tC (I : am_I) (q : Nat × (Nat → Int32)) : am_ag sPC I (tp_C I q) := fun k j e => by
  unfold sPC at e
  simp at e
  unfold tp_C upd
  by_cases c : k = 1
  · subst c
    have : j ≠ 1 := by omega
    simp [this]
  · have : k ≠ 2 := by omega
    simp [c, this]
theorem ag_tM (I : am_I) (q : Nat × (Nat → Int32)) : am_ag sPM I (tp_M I q) := fun k j e => by
  unfold sPM at e
  simp at e
  unfold tp_M upd
  by_cases c : k = 0
  · subst c
    have : j ≠ 2 := by omega
    simp [this]
  · have : k ≠ 1 := by omega
    simp [c, this]
theorem TP_mk (IC IM : am_I) (q : Nat × (Nat → Int32)) (h : q.1 ≤ 240) (hb : bys q) : TP (tp_C IC q) (tp_M IM q) q.1 q.2 := ⟨h, tp_C_len _ _, tp_M_len _ _, rfl, rfl, hb⟩
theorem d_feed : pd_feed ReL := by
  intro al IC LC IM LM e0 e1 e2 e3 e4 h
  obtain ⟨n, c, W, q, g, a, K, kw, l, b, s, w, e, x, hT, hD, ⟨i1, i2, i3⟩, ⟨x1, x2, x3⟩, so, hR, hA⟩ := id h
  obtain ⟨h1, hl, h3, h4, h5, h6, h7, h8, h9, h10⟩ := id hD
  obtain ⟨t1, t2, t3, t4, t5, t6⟩ := id hT
  have eC : tp_C IC (n, c) = IC := by rw [← t4]; exact tp_C_id t2
  have eM : tp_M IM (n, c) = IM := by rw [← t5]; exact tp_M_id t3
  have w := tp_feed e0 e1 e2 e3 e4 IC LC IM LM (n, c) t1
  rw [eC, eM] at w
  obtain ⟨v1, v2⟩ := tp_ok (tp_w e0 e1 e2 e3 e4) (fun j => b255 _) 20 0 (n, c) t6
  rcases w with ⟨w0, w1, w2⟩ | ⟨w1, w2⟩
  · refine ⟨_, _, LC, _, LM, w1, w2, R_tp h (TP_mk IC IM _ ?_ v1) (ag_tC _ _) (ag_tM _ _)⟩
    rw [v2]
    exact w0
  · exact ⟨_, _, LC, _, LM, w1, w2, h⟩
theorem d_end : pd_end ReL := by
  intro al IC LC IM LM e0 h
  obtain ⟨n, c, W, q, g, a, K, kw, l, b, s, w, e, x, hT, hD, ⟨i1, i2, i3⟩, ⟨x1, x2, x3⟩, so, hR, hA⟩ := id h
  obtain ⟨h1, hl, h3, h4, h5, h6, h7, h8, h9, h10⟩ := id hD
  obtain ⟨t1, t2, t3, t4, t5, t6⟩ := id hT
  have eC : tp_C IC (n, c) = IC := by rw [← t4]; exact tp_C_id t2
  have eM : tp_M IM (n, c) = IM := by rw [← t5]; exact tp_M_id t3
  have w := tp_end e0 IC LC IM LM (n, c) t1
  rw [eC, eM] at w
  rcases w with ⟨k, w0, w1, w2⟩ | ⟨w1, w2⟩
  · have w0' : k ≤ n := w0
    refine ⟨_, _, LC, _, LM, w1, w2, R_tp h (TP_mk IC IM (k, c) ?_ (fun j hj => t6 j ?_)) (ag_tC _ _) (ag_tM _ _)⟩
    · show k ≤ 240
      omega
    · have hj' : j < k := hj
      omega
  · exact ⟨_, _, LC, _, LM, w1, w2, h⟩
/-- the class's state with no rows of duels -/
def zro (I : am_I) : am_I := fun t => if t = 67 ∨ t = 68 then fun _ => 0 else I t
theorem zro_lt (I : am_I) {t : Nat} (h : t < 67) : zro I t = I t := if_neg (by omega)
theorem zro_CS {I : am_I} {g : Nat → Nat → Nat} (h : CS I g) : CS (zro I) g := h
theorem zro_rD {I : am_I} {g : Nat → Nat → Nat} (h8 : I 51 8 = nI 0) (h : g 0 0 = 0 ∨ rDu I g) : g 0 0 = 0 ∨ rDu (zro I) g := by
  rcases h with h | ⟨h1, h2, h3⟩
  · exact Or.inl h
  · exact Or.inr ⟨h1, h2, Or.inl h8⟩
theorem zro_ZS {I : am_I} {g : Nat → Nat → Nat} (hg : GW g) (h8 : I 51 8 = nI 0) (h : CS I g) : ZS (zro I) := by
  refine ⟨⟨rfl, rfl⟩, fun a ha hn => ?_⟩
  have e3 : zro I 3 0 = nI (g 0 0) := h.1
  rw [e3] at hn
  have gm := hg.1
  rcases ix_of a (n := g 0 0) (by omega) with he | ⟨m, hm, rfl⟩
  · exfalso
    rcases he with he | he
    · exact ha (Or.inl he)
    · exact hn he
  · have e6 : zro I 6 m = nI (g 3 m) := h.2.2.2.2.2.2.2.1 m hm
    have b := (hg.2.2.2.2.2.1 m hm).2.2
    rw [nI_clamp (by omega), e6, show zro I 51 8 = nI 0 from h8]
    intro z
    have := congrArg Int32.toInt z
    rw [nI_toInt (by omega), nI_toInt (by omega)] at this
    omega
theorem ag_zq (I : am_I) {I' : am_I} (h : am_ag sDq (zro I) I') : am_ag sDq I I' := fun k j e => by
  rw [h k j e]
  have : ¬ (k = 67 ∨ k = 68) := by
    intro z
    rcases z with z | z <;> subst z <;> simp [sDq, sDd] at e
  unfold zro
  rw [if_neg this]
theorem d_duel : pe_duel ReL := by
  intro al IC LC IM LM e0 e1 e2 h
  obtain ⟨n, c, W, q, g, a, K, kw, l, b, s, w, e, x, hT, hD, ⟨i1, i2, i3⟩, ⟨x1, x2, x3⟩, so, hR, hA⟩ := id h
  obtain ⟨h1, hl, h3, h4, h5, h6, h7, h8, h9, h10⟩ := id hD
  cases al
  · have h8 := hA rfl
    obtain ⟨r, I', J', w1, w2, w3, w4, w5⟩ := op_duel h1 (zro_CS h3) h6 (zro_rD h8 hR) LC LM e0 e1 e2
    refine Or.inr ⟨rfl, zro IC, r, I', LC, J', LM, fun t ht => zro_lt IC ht, w2, ?_⟩
    rcases rm_duel (zro_ZS h1 h8 h3) w1 with ⟨v1, v2⟩ | v
    · exact Or.inl ⟨v1, R_du (al := false) hT hD i1 i2 i3 x1 x2 x3 so (ag_zq IC w3) w4 w5 (fun _ => Eq.trans v2 h8)⟩
    · exact Or.inr ⟨v, R_du (al := false) hT hD i1 i2 i3 x1 x2 x3 so (ag_zq IC w3) w4 w5 (fun z => by cases z)⟩
  · obtain ⟨r, I', J', w1, w2, w3, w4, w5⟩ := op_duel h1 h3 h6 hR LC LM e0 e1 e2
    exact Or.inl ⟨rfl, r, I', LC, J', LM, w1, w2, R_du (al := false) hT hD i1 i2 i3 x1 x2 x3 so w3 w4 w5 (fun z => by cases z)⟩
theorem d_champion : pe_champion ReL := by
  intro al IC LC IM LM e0 h
  obtain ⟨n, c, W, q, g, a, K, kw, l, b, s, w, e, x, hT, hD, ⟨i1, i2, i3⟩, ⟨x1, x2, x3⟩, so, hR, hA⟩ := id h
  obtain ⟨h1, hl, h3, h4, h5, h6, h7, h8, h9, h10⟩ := id hD
  cases al
  · have h8 := hA rfl
    obtain ⟨r, I', J', w1, w2, w3, w4, w5⟩ := op_champion h1 (zro_CS h3) h6 (zro_rD h8 hR) LC LM e0
    refine Or.inr ⟨rfl, zro IC, r, I', LC, J', LM, fun t ht => zro_lt IC ht, w2, ?_⟩
    rcases rm_champion (zro_ZS h1 h8 h3) w1 with ⟨v1, v2⟩ | v
    · exact Or.inl ⟨v1, R_du (al := false) hT hD i1 i2 i3 x1 x2 x3 so (ag_zq IC w3) w4 w5 (fun _ => Eq.trans v2 h8)⟩
    · exact Or.inr ⟨v, R_du (al := false) hT hD i1 i2 i3 x1 x2 x3 so (ag_zq IC w3) w4 w5 (fun z => by cases z)⟩
  · obtain ⟨r, I', J', w1, w2, w3, w4, w5⟩ := op_champion h1 h3 h6 hR LC LM e0
    exact Or.inl ⟨rfl, r, I', LC, J', LM, w1, w2, R_du (al := false) hT hD i1 i2 i3 x1 x2 x3 so w3 w4 w5 (fun z => by cases z)⟩
theorem d_treaty : pe_treaty ReL := by
  intro al IC LC IM LM e0 e1 h
  obtain ⟨n, c, W, q, g, a, K, kw, l, b, s, w, e, x, hT, hD, ⟨i1, i2, i3⟩, ⟨x1, x2, x3⟩, so, hR, hA⟩ := id h
  obtain ⟨h1, hl, h3, h4, h5, h6, h7, h8, h9, h10⟩ := id hD
  cases al
  · have h8 := hA rfl
    obtain ⟨r, I', J', w1, w2, w3, w4, w5⟩ := op_treaty h1 (zro_CS h3) h6 (zro_rD h8 hR) LC LM e0 e1
    refine Or.inr ⟨rfl, zro IC, r, I', LC, J', LM, fun t ht => zro_lt IC ht, w2, ?_⟩
    rcases rm_treaty (zro_ZS h1 h8 h3) w1 with ⟨v1, v2⟩ | v
    · exact Or.inl ⟨v1, R_du (al := false) hT hD i1 i2 i3 x1 x2 x3 so (ag_zq IC w3) w4 w5 (fun _ => Eq.trans v2 h8)⟩
    · exact Or.inr ⟨v, R_du (al := false) hT hD i1 i2 i3 x1 x2 x3 so (ag_zq IC w3) w4 w5 (fun z => by cases z)⟩
  · obtain ⟨r, I', J', w1, w2, w3, w4, w5⟩ := op_treaty h1 h3 h6 hR LC LM e0 e1
    exact Or.inl ⟨rfl, r, I', LC, J', LM, w1, w2, R_du (al := false) hT hD i1 i2 i3 x1 x2 x3 so w3 w4 w5 (fun z => by cases z)⟩
theorem d_victors : pe_victors ReL := by
  intro al IC LC IM LM e0 h
  obtain ⟨n, c, W, q, g, a, K, kw, l, b, s, w, e, x, hT, hD, ⟨i1, i2, i3⟩, ⟨x1, x2, x3⟩, so, hR, hA⟩ := id h
  obtain ⟨h1, hl, h3, h4, h5, h6, h7, h8, h9, h10⟩ := id hD
  cases al
  · have h8 := hA rfl
    obtain ⟨r, I', J', w1, w2, w3, w4, w5⟩ := op_victors h1 (zro_CS h3) h6 (zro_rD h8 hR) LC LM e0
    refine Or.inr ⟨rfl, zro IC, r, I', LC, J', LM, fun t ht => zro_lt IC ht, w2, ?_⟩
    rcases rm_victors (zro_ZS h1 h8 h3) w1 with ⟨v1, v2⟩ | v
    · exact Or.inl ⟨v1, R_du (al := false) hT hD i1 i2 i3 x1 x2 x3 so (ag_zq IC w3) w4 w5 (fun _ => Eq.trans v2 h8)⟩
    · exact Or.inr ⟨v, R_du (al := false) hT hD i1 i2 i3 x1 x2 x3 so (ag_zq IC w3) w4 w5 (fun z => by cases z)⟩
  · obtain ⟨r, I', J', w1, w2, w3, w4, w5⟩ := op_victors h1 h3 h6 hR LC LM e0
    exact Or.inl ⟨rfl, r, I', LC, J', LM, w1, w2, R_du (al := false) hT hD i1 i2 i3 x1 x2 x3 so w3 w4 w5 (fun z => by cases z)⟩
theorem r_0 : ReL false (am_IL IIC_33) am_L0 (am_IL IIM_1) am_L0 := by
  refine ⟨0, fun _ => 0, fun _ _ => 0, fun _ => 0, fun _ _ => 0, 0, fun _ _ _ => 0, fun _ => 0, fun _ => 0, 0, fun _ _ => 0, 0, fun _ => 0, fun _ _ => 0, ⟨Nat.zero_le _, rfl, rfl, rfl, rfl, fun j hj => absurd hj (Nat.not_lt_zero _)⟩, ⟨?_, ⟨Nat.zero_le _, Nat.le_refl _⟩, ?_, ⟨rfl, rfl, fun j hj => absurd hj (Nat.not_lt_zero _)⟩, rfl, ?_, ⟨rfl, rfl, fun j hj => absurd hj (Nat.not_lt_zero _)⟩, ⟨Nat.zero_le _, fun j hj => absurd hj (Nat.not_lt_zero _), fun j hj => absurd hj (Nat.not_lt_zero _), Nat.zero_le _, fun _ => Nat.zero_le _⟩, ⟨rfl, rfl, fun t _ h2 => absurd h2 (Nat.not_lt_zero _), 0, Nat.zero_le _, rfl, fun j hj => absurd hj (Nat.not_lt_zero _)⟩, ⟨rfl, fun j hj => absurd hj (Nat.not_lt_zero _), rfl, fun j hj => absurd hj (Nat.not_lt_zero _)⟩⟩, ⟨⟨Nat.zero_le _, fun z => by cases z⟩, ⟨rfl, fun z => by cases z⟩, ⟨rfl, fun z => by cases z⟩⟩, ⟨⟨Nat.zero_le _, fun j hj => absurd hj (Nat.not_lt_zero _)⟩, ⟨rfl, fun j hj => absurd hj (Nat.not_lt_zero _), fun j hj => absurd hj (Nat.not_lt_zero _)⟩, ⟨rfl, fun j hj => absurd hj (Nat.not_lt_zero _), fun j hj => absurd hj (Nat.not_lt_zero _)⟩⟩, fun p _ => ⟨0, Nat.zero_le _, rfl⟩, Or.inl rfl, fun _ => rfl⟩
  · exact ⟨Nat.zero_le _, Nat.zero_le _, Nat.zero_le _, Nat.zero_le _, Nat.zero_le _, fun j hj => absurd hj (Nat.not_lt_zero _), fun j hj => absurd hj (Nat.not_lt_zero _), fun o q ho _ _ => absurd ho (Nat.not_lt_zero _), fun j hj => absurd hj (Nat.not_lt_zero _), fun z => absurd z (Nat.lt_irrefl _)⟩
  · exact ⟨rfl, rfl, rfl, rfl, rfl, fun j hj => absurd hj (Nat.not_lt_zero _), fun j hj => absurd hj (Nat.not_lt_zero _), fun j hj => absurd hj (Nat.not_lt_zero _), fun j hj => absurd hj (Nat.not_lt_zero _), fun j hj => absurd hj (Nat.not_lt_zero _), fun j hj => absurd hj (Nat.not_lt_zero _), fun j hj => absurd hj (Nat.not_lt_zero _), fun j hj => absurd hj (Nat.not_lt_zero _), fun j hj => absurd hj (Nat.not_lt_zero _), fun j hj => absurd hj (Nat.not_lt_zero _), rfl, fun s _ => rfl, rfl, rfl⟩
  · exact ⟨rfl, rfl, rfl, rfl, rfl, fun j hj => absurd hj (Nat.not_lt_zero _), fun j hj => absurd hj (Nat.not_lt_zero _), fun j hj => absurd hj (Nat.not_lt_zero _), fun j hj => absurd hj (Nat.not_lt_zero _), fun j hj => absurd hj (Nat.not_lt_zero _), fun j hj => absurd hj (Nat.not_lt_zero _), fun j hj => absurd hj (Nat.not_lt_zero _), fun j hj => absurd hj (Nat.not_lt_zero _), fun j hj => absurd hj (Nat.not_lt_zero _), fun j hj => absurd hj (Nat.not_lt_zero _), fun j hj => absurd hj (Nat.not_lt_zero _)⟩
