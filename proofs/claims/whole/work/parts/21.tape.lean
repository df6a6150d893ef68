/-! PURE: the tape. -/
theorem pu_c1 (I : am_I) (t j : Nat) (v : Int32) : am_up I t j v t j = v := by simp [am_up, upd]
/-- bytes of a word, the highest first -/
def tp_b (w : Int32) (t : Nat) : Int32 := (w.toUInt32 >>> ((nI (24 - 8 * t)).toUInt32 &&& Int32.toUInt32 31)).toInt32 &&& (255 : Int32)
theorem tp_sh (w : Int32) (n : Nat) (hn : n ≤ 24) : (w >>> (nI n &&& 31)) &&& (255 : Int32) = (w.toUInt32 >>> ((nI n).toUInt32 &&& Int32.toUInt32 31)).toInt32 &&& (255 : Int32) := by
  apply b_ext
  intro i hi
  rw [b_and, b_and, b_sshr n (by omega) w hi, b_ushr n (by omega), b_255]
  by_cases h : i < 8
  · rw [if_pos (by omega)]
  · simp [h]
def tp_c (v : Int32) : Nat := if v = 0 then 0 else 1
/-- a byte behind a tape: its length, its bytes -/
def tp_p (q : Nat × (Nat → Int32)) (v : Int32) : Nat × (Nat → Int32) := if v = 0 then q else (q.1 + 1, upd q.2 q.1 v)
theorem tp_p_len (q : Nat × (Nat → Int32)) (v : Int32) : (tp_p q v).1 = q.1 + tp_c v := by
  unfold tp_p tp_c
  split <;> rfl
/-- the class's state with the tape q, the model's -/
def tp_C (I : am_I) (q : Nat × (Nat → Int32)) : am_I := fun k => if k = 1 then upd (I 1) 1 (nI q.1) else if k = 2 then q.2 else I k
def tp_M (I : am_I) (q : Nat × (Nat → Int32)) : am_I := fun k => if k = 0 then upd (I 0) 2 (nI q.1) else if k = 1 then q.2 else I k
theorem tp_C_id {I : am_I} {n : Nat} (h : I 1 1 = nI n) : tp_C I (n, I 2) = I := by
  funext k j
  unfold tp_C
  by_cases h1 : k = 1
  · subst h1
    by_cases h2 : j = 1
    · subst h2; simp [upd, h]
    · simp [upd, h2]
  · by_cases h2 : k = 2
    · subst h2; simp
    · simp [h1, h2]
theorem tp_M_id {I : am_I} {n : Nat} (h : I 0 2 = nI n) : tp_M I (n, I 1) = I := by
  funext k j
  unfold tp_M
  by_cases h1 : k = 0
  · subst h1
    by_cases h2 : j = 2
    · subst h2; simp [upd, h]
    · simp [upd, h2]
  · by_cases h2 : k = 1
    · subst h2; simp
    · simp [h1, h2]
theorem tp_C_up (I : am_I) (q : Nat × (Nat → Int32)) (v : Int32) : am_up (am_up (tp_C I q) 2 q.1 v) 1 1 (nI (q.1 + 1)) = tp_C I (q.1 + 1, upd q.2 q.1 v) := by
  funext k j
  unfold tp_C am_up
  by_cases h1 : k = 1
  · subst h1
    by_cases h2 : j = 1 <;> simp [upd, h2]
  · by_cases h2 : k = 2
    · subst h2; simp
    · simp [h1, h2]
theorem tp_M_up (I : am_I) (q : Nat × (Nat → Int32)) (v : Int32) : am_up (am_up (tp_M I q) 1 q.1 v) 0 2 (nI (q.1 + 1)) = tp_M I (q.1 + 1, upd q.2 q.1 v) := by
  funext k j
  unfold tp_M am_up
  by_cases h1 : k = 0
  · subst h1
    by_cases h2 : j = 2 <;> simp [upd, h2]
  · by_cases h2 : k = 1
    · subst h2; simp
    · simp [h1, h2]
theorem tp_C_len (I : am_I) (q : Nat × (Nat → Int32)) : tp_C I q 1 1 = nI q.1 := by simp [tp_C, upd]
theorem tp_M_len (I : am_I) (q : Nat × (Nat → Int32)) : tp_M I q 0 2 = nI q.1 := by simp [tp_M, upd]
theorem tp_in1 (n d m t : Nat) (w v : Int32) (I : am_I) (L : am_L) : fX8_bytesIn_b5 n d (m + 1) w v (nI (24 - 8 * t)) I L = fX8_bytesIn_b5 n d m w (v + nI (tp_c (tp_b w t))) (nI (24 - 8 * t) + (-8 : Int32)) I L := by
  show fX8_bytesIn_b5w n d (fX8_bytesIn_b5 n d m) w v (nI (24 - 8 * t)) I L = _
  unfold fX8_bytesIn_b5w fX8_bytesIn_b25 am_lt
  rw [if_neg (nI_pos (by omega))]
  unfold tp_c tp_b
  split <;> rfl
theorem tp_in (n d : Nat) (w : Int32) (I : am_I) (L : am_L) (hn : 5 ≤ n) : fX8_bytesIn n d w I L = some (nI (tp_c (tp_b w 0) + tp_c (tp_b w 1) + tp_c (tp_b w 2) + tp_c (tp_b w 3)), I, L) := by
  obtain ⟨m, rfl⟩ : ∃ m, n = m + 5 := ⟨n - 5, by omega⟩
  show fX8_bytesIn_b5 (m + 5) d (m + 4 + 1) w 0 (nI (24 - 8 * 0)) I L = _
  have e0 := tp_in1 (m + 5) d (m + 4) 0 w 0 I L
  have e1 := fun v => tp_in1 (m + 5) d (m + 3) 1 w v I L
  have e2 := fun v => tp_in1 (m + 5) d (m + 2) 2 w v I L
  have e3 := fun v => tp_in1 (m + 5) d (m + 1) 3 w v I L
  rw [e0]
  rw [show nI (24 - 8 * 0) + (-8 : Int32) = nI (24 - 8 * 1) from by decide, e1]
  rw [show nI (24 - 8 * 1) + (-8 : Int32) = nI (24 - 8 * 2) from by decide, e2]
  rw [show nI (24 - 8 * 2) + (-8 : Int32) = nI (24 - 8 * 3) from by decide, e3]
  show fX8_bytesIn_b5w _ _ _ _ _ _ _ _ = _
  unfold fX8_bytesIn_b5w
  rw [if_pos (by decide)]
  rw [show (0 : Int32) = nI 0 from rfl, nI_add, nI_add, nI_add, nI_add, Nat.zero_add]
theorem tp_pu1 (n d m t : Nat) (w : Int32) (I : am_I) (L : am_L) (q : Nat × (Nat → Int32)) (hq : q.1 + tp_c (tp_b w t) ≤ 240) : fX8_put_b3 n d (m + 1) w (nI (24 - 8 * t)) (tp_C I q) L = fX8_put_b3 n d m w (nI (24 - 8 * t) + (-8 : Int32)) (tp_C I (tp_p q (tp_b w t))) L := by
  show fX8_put_b3w n d (fX8_put_b3 n d m) w (nI (24 - 8 * t)) (tp_C I q) L = _
  unfold fX8_put_b3w fX8_put_b58 am_lt
  rw [if_neg (nI_pos (by omega))]
  show (if tp_b w t = 0 then _ else _) = _
  unfold tp_p
  by_cases h : tp_b w t = 0
  · rw [if_pos h, if_pos h]
  · rw [if_neg h, if_neg h]
    have hc : tp_c (tp_b w t) = 1 := by unfold tp_c; rw [if_neg h]
    have hl : q.1 < 240 := by omega
    rw [tp_C_len, if_neg (nI_pos (by omega)), if_neg (by rw [show (240 : Int32) = nI 240 from rfl, nI_leI (by omega) (by omega)]; omega)]
    unfold am_ck
    rw [if_pos (by rw [nI_toInt (by omega)]; omega), nI_clamp (by omega)]
    have e : am_up (tp_C I q) 2 q.1 (tp_b w t) 1 1 = nI q.1 := by rw [am_up_ne (by decide), tp_C_len]
    show fX8_put_b3 n d m w _ (am_up (am_up (tp_C I q) 2 q.1 (tp_b w t)) 1 1 (am_up (tp_C I q) 2 q.1 (tp_b w t) 1 1 + 1)) L = _
    rw [e, nI_1, tp_C_up]
theorem tp_pu (n d : Nat) (w : Int32) (I : am_I) (L : am_L) (q : Nat × (Nat → Int32)) (hn : 5 ≤ n) (hq : q.1 + (tp_c (tp_b w 0) + tp_c (tp_b w 1) + tp_c (tp_b w 2) + tp_c (tp_b w 3)) ≤ 240) : fX8_put n d w (tp_C I q) L = some (tp_C I (tp_p (tp_p (tp_p (tp_p q (tp_b w 0)) (tp_b w 1)) (tp_b w 2)) (tp_b w 3)), L) := by
  obtain ⟨m, rfl⟩ : ∃ m, n = m + 5 := ⟨n - 5, by omega⟩
  show fX8_put_b3 (m + 5) d (m + 4 + 1) w (nI (24 - 8 * 0)) (tp_C I q) L = _
  rw [tp_pu1 (m + 5) d (m + 4) 0 w I L q (by omega)]
  rw [show nI (24 - 8 * 0) + (-8 : Int32) = nI (24 - 8 * 1) from by decide, tp_pu1 (m + 5) d (m + 3) 1 w I L _ (by rw [tp_p_len]; omega)]
  rw [show nI (24 - 8 * 1) + (-8 : Int32) = nI (24 - 8 * 2) from by decide, tp_pu1 (m + 5) d (m + 2) 2 w I L _ (by rw [tp_p_len, tp_p_len]; omega)]
  rw [show nI (24 - 8 * 2) + (-8 : Int32) = nI (24 - 8 * 3) from by decide, tp_pu1 (m + 5) d (m + 1) 3 w I L _ (by rw [tp_p_len, tp_p_len, tp_p_len]; omega)]
  show fX8_put_b3w _ _ _ _ _ _ _ = _
  unfold fX8_put_b3w
  rw [if_pos (by decide)]
/-- the twenty bytes -/
def tp_w (e0 e1 e2 e3 e4 : Int32) (j : Nat) : Int32 := tp_b (if j < 4 then e0 else if j < 8 then e1 else if j < 12 then e2 else if j < 16 then e3 else e4) (j % 4)
theorem tp_by45 (n d : Nat) (w : Int32) (j : Nat) (hj : j < 20) (I : am_I) (L : am_L) : fX12_byteOf_b45 n d w (nI j) I L = some (tp_b w (j % 4), I, L) := by
  show (if (4 : Int32) = 0 then none else some ((w >>> (((24 : Int32) - ((8 : Int32) * (nI j - nI j / (4 : Int32) * (4 : Int32)))) &&& 31)) &&& (255 : Int32), I, L)) = _
  rw [if_neg (by decide)]
  rw [show (4 : Int32) = nI 4 from rfl, pk_rem (by omega) (by omega) (by omega), show (8 : Int32) = nI 8 from rfl, pk_mul, show (24 : Int32) = nI 24 from rfl, pk_sub (by omega), tp_sh _ _ (by omega)]
  rfl
theorem tp_by (n d : Nat) (e0 e1 e2 e3 e4 : Int32) (j : Nat) (hj : j < 20) (I : am_I) (L : am_L) : fX12_byteOf n d e0 e1 e2 e3 e4 (nI j) I L = some (tp_w e0 e1 e2 e3 e4 j, I, L) := by
  unfold fX12_byteOf tp_w
  rw [show (4 : Int32) = nI 4 from rfl, show (8 : Int32) = nI 8 from rfl, show (12 : Int32) = nI 12 from rfl, show (16 : Int32) = nI 16 from rfl]
  simp only [nI_leI (show 4 < 2 ^ 31 by decide) (show j < 2 ^ 31 by omega), nI_leI (show 8 < 2 ^ 31 by decide) (show j < 2 ^ 31 by omega), nI_leI (show 12 < 2 ^ 31 by decide) (show j < 2 ^ 31 by omega), nI_leI (show 16 < 2 ^ 31 by decide) (show j < 2 ^ 31 by omega), tp_by45 n d _ j hj I L]
  by_cases h1 : j < 4
  · rw [if_neg (by omega), if_pos h1]
  · rw [if_pos (by omega), if_neg h1]
    by_cases h2 : j < 8
    · rw [if_neg (by omega), if_pos h2]
    · rw [if_pos (by omega), if_neg h2]
      by_cases h3 : j < 12
      · rw [if_neg (by omega), if_pos h3]
      · rw [if_pos (by omega), if_neg h3]
        by_cases h4 : j < 16
        · rw [if_neg (by omega), if_pos h4]
        · rw [if_pos (by omega), if_neg h4]
def tp_n (B : Nat → Int32) : Nat → Nat → Nat
  | 0, _ => 0
  | i + 1, j => tp_c (B j) + tp_n B i (j + 1)
def tp_f (B : Nat → Int32) : Nat → Nat → Nat × (Nat → Int32) → Nat × (Nat → Int32)
  | 0, _, q => q
  | i + 1, j, q => tp_f B i (j + 1) (tp_p q (B j))
theorem tp_m1 (n d m : Nat) (e0 e1 e2 e3 e4 : Int32) (I : am_I) (L : am_L) : ∀ (i j c : Nat), i + j = 20 → fX12_feed_b6 n d (i + 1 + m) e0 e1 e2 e3 e4 (nI c) (nI j) I L = if I 0 2 + nI (c + tp_n (tp_w e0 e1 e2 e3 e4) i j) ≤ 240 then fX12_feed_b62 n d n e0 e1 e2 e3 e4 0 I L else some (-1, I, L)
  | 0, j, c, h => by
    rw [show 0 + 1 + m = m + 1 by omega]
    show fX12_feed_b6w n d (fX12_feed_b6 n d m) e0 e1 e2 e3 e4 (nI c) (nI j) I L = _
    unfold fX12_feed_b6w am_lt
    rw [if_pos (by rw [show (20 : Int32) = nI 20 from rfl, nI_leI (by omega) (by omega)]; omega)]
    rfl
  | i + 1, j, c, h => by
    rw [show i + 1 + 1 + m = (i + 1 + m) + 1 by omega]
    show fX12_feed_b6w n d (fX12_feed_b6 n d (i + 1 + m)) e0 e1 e2 e3 e4 (nI c) (nI j) I L = _
    unfold fX12_feed_b6w fX12_feed_b35 am_lt
    rw [if_neg (by rw [show (20 : Int32) = nI 20 from rfl, nI_leI (by omega) (by omega)]; omega), tp_by n d e0 e1 e2 e3 e4 j (by omega) I L]
    show (if tp_w e0 e1 e2 e3 e4 j = 0 then fX12_feed_b6 n d (i + 1 + m) e0 e1 e2 e3 e4 (nI c + 0) (nI j + 1) I L else fX12_feed_b6 n d (i + 1 + m) e0 e1 e2 e3 e4 (nI c + 1) (nI j + 1) I L) = _
    have ih := fun c' => tp_m1 n d m e0 e1 e2 e3 e4 I L i (j + 1) c' (by omega)
    rw [nI_1, nI_1, Int32.add_zero]
    by_cases hb : tp_w e0 e1 e2 e3 e4 j = 0
    · rw [if_pos hb, ih]
      have : tp_c (tp_w e0 e1 e2 e3 e4 j) = 0 := by unfold tp_c; rw [if_pos hb]
      simp only [tp_n, this, Nat.zero_add, Nat.add_zero]
    · rw [if_neg hb, ih]
      have : tp_c (tp_w e0 e1 e2 e3 e4 j) = 1 := by unfold tp_c; rw [if_neg hb]
      simp only [tp_n, this, Nat.add_assoc]
theorem tp_m2 (n d m : Nat) (e0 e1 e2 e3 e4 : Int32) (I : am_I) (L : am_L) : ∀ (i j : Nat) (q : Nat × (Nat → Int32)), i + j = 20 → q.1 + tp_n (tp_w e0 e1 e2 e3 e4) i j ≤ 240 → fX12_feed_b62 n d (i + 1 + m) e0 e1 e2 e3 e4 (nI j) (tp_M I q) L = some (nI (tp_f (tp_w e0 e1 e2 e3 e4) i j q).1, tp_M I (tp_f (tp_w e0 e1 e2 e3 e4) i j q), L)
  | 0, j, q, h, hq => by
    rw [show 0 + 1 + m = m + 1 by omega]
    show fX12_feed_b62w n d (fX12_feed_b62 n d m) e0 e1 e2 e3 e4 (nI j) (tp_M I q) L = _
    unfold fX12_feed_b62w
    rw [if_pos (by rw [show (20 : Int32) = nI 20 from rfl, nI_leI (by omega) (by omega)]; omega), tp_M_len]
    rfl
  | i + 1, j, q, h, hq => by
    rw [show i + 1 + 1 + m = (i + 1 + m) + 1 by omega]
    show fX12_feed_b62w n d (fX12_feed_b62 n d (i + 1 + m)) e0 e1 e2 e3 e4 (nI j) (tp_M I q) L = _
    unfold fX12_feed_b62w fX12_feed_b109 am_lt
    rw [if_neg (by rw [show (20 : Int32) = nI 20 from rfl, nI_leI (by omega) (by omega)]; omega), tp_by n d e0 e1 e2 e3 e4 j (by omega) (tp_M I q) L]
    show (if tp_w e0 e1 e2 e3 e4 j = 0 then fX12_feed_b62 n d (i + 1 + m) e0 e1 e2 e3 e4 (nI j + 1) (tp_M I q) L else am_ck (tp_M I q 0 2) 240 (fX12_feed_b62 n d (i + 1 + m) e0 e1 e2 e3 e4 (nI j + 1) (am_up (am_up (tp_M I q) 1 (tp_M I q 0 2).toNatClampNeg (tp_w e0 e1 e2 e3 e4 j)) 0 2 (am_up (tp_M I q) 1 (tp_M I q 0 2).toNatClampNeg (tp_w e0 e1 e2 e3 e4 j) 0 2 + 1)) L)) = _
    simp only [tp_n] at hq
    have ih := tp_m2 n d m e0 e1 e2 e3 e4 I L i (j + 1) (tp_p q (tp_w e0 e1 e2 e3 e4 j)) (by omega) (by rw [tp_p_len]; omega)
    rw [nI_1]
    by_cases hb : tp_w e0 e1 e2 e3 e4 j = 0
    · rw [if_pos hb]
      have e : tp_p q (tp_w e0 e1 e2 e3 e4 j) = q := by unfold tp_p; rw [if_pos hb]
      rw [e] at ih
      rw [ih]
      simp only [tp_f, e]
    · rw [if_neg hb]
      have e : tp_p q (tp_w e0 e1 e2 e3 e4 j) = (q.1 + 1, upd q.2 q.1 (tp_w e0 e1 e2 e3 e4 j)) := by unfold tp_p; rw [if_neg hb]
      have hc : tp_c (tp_w e0 e1 e2 e3 e4 j) = 1 := by unfold tp_c; rw [if_neg hb]
      unfold am_ck
      rw [tp_M_len, if_pos (by rw [nI_toInt (by omega)]; omega), nI_clamp (by omega), am_up_ne (by decide), tp_M_len, nI_1, tp_M_up, ← e, ih]
      rfl
/-- feed, on both sides -/
theorem tp_feed (e0 e1 e2 e3 e4 : Int32) (IC : am_I) (LC : am_L) (IM : am_I) (LM : am_L) (q : Nat × (Nat → Int32)) (hq : q.1 ≤ 240) : (q.1 + tp_n (tp_w e0 e1 e2 e3 e4) 20 0 ≤ 240 ∧ fX11_feed am_N 1900 e0 e1 e2 e3 e4 (tp_C IC q) LC = some (nI (tp_f (tp_w e0 e1 e2 e3 e4) 20 0 q).1, tp_C IC (tp_f (tp_w e0 e1 e2 e3 e4) 20 0 q), LC) ∧ fX12_feed am_N 1900 e0 e1 e2 e3 e4 (tp_M IM q) LM = some (nI (tp_f (tp_w e0 e1 e2 e3 e4) 20 0 q).1, tp_M IM (tp_f (tp_w e0 e1 e2 e3 e4) 20 0 q), LM)) ∨
    (fX11_feed am_N 1900 e0 e1 e2 e3 e4 (tp_C IC q) LC = some (-1, tp_C IC q, LC) ∧ fX12_feed am_N 1900 e0 e1 e2 e3 e4 (tp_M IM q) LM = some (-1, tp_M IM q, LM)) := by
  have hn : 5 ≤ am_N := by decide
  have hs : ∀ w : Int32, tp_c w ≤ 1 := fun w => by unfold tp_c; split <;> omega
  have en : tp_n (tp_w e0 e1 e2 e3 e4) 20 0 = (tp_c (tp_b e0 0) + tp_c (tp_b e0 1) + tp_c (tp_b e0 2) + tp_c (tp_b e0 3)) + (tp_c (tp_b e1 0) + tp_c (tp_b e1 1) + tp_c (tp_b e1 2) + tp_c (tp_b e1 3)) + (tp_c (tp_b e2 0) + tp_c (tp_b e2 1) + tp_c (tp_b e2 2) + tp_c (tp_b e2 3)) + (tp_c (tp_b e3 0) + tp_c (tp_b e3 1) + tp_c (tp_b e3 2) + tp_c (tp_b e3 3)) + (tp_c (tp_b e4 0) + tp_c (tp_b e4 1) + tp_c (tp_b e4 2) + tp_c (tp_b e4 3)) := by
    simp only [tp_n, tp_w]
    simp
    omega
  have hM : fX12_feed am_N 1900 e0 e1 e2 e3 e4 (tp_M IM q) LM = _ := tp_m1 am_N 1900 (am_N - 21) e0 e1 e2 e3 e4 (tp_M IM q) LM 20 0 0 rfl
  have hlim : tp_n (tp_w e0 e1 e2 e3 e4) 20 0 ≤ 20 := by
    rw [en]
    have := hs (tp_b e0 0); have := hs (tp_b e0 1); have := hs (tp_b e0 2); have := hs (tp_b e0 3)
    have := hs (tp_b e1 0); have := hs (tp_b e1 1); have := hs (tp_b e1 2); have := hs (tp_b e1 3)
    have := hs (tp_b e2 0); have := hs (tp_b e2 1); have := hs (tp_b e2 2); have := hs (tp_b e2 3)
    have := hs (tp_b e3 0); have := hs (tp_b e3 1); have := hs (tp_b e3 2); have := hs (tp_b e3 3)
    have := hs (tp_b e4 0); have := hs (tp_b e4 1); have := hs (tp_b e4 2); have := hs (tp_b e4 3)
    omega
  have hcond : ∀ k : Nat, k ≤ 20 → (nI q.1 + nI k ≤ (240 : Int32) ↔ q.1 + k ≤ 240) := fun k hk => by
    rw [nI_add, show (240 : Int32) = nI 240 from rfl, nI_leI (by omega) (by omega)]
  have hC : fX11_feed am_N 1900 e0 e1 e2 e3 e4 (tp_C IC q) LC = if nI q.1 + nI (tp_n (tp_w e0 e1 e2 e3 e4) 20 0) ≤ (240 : Int32) then (am_b2 (fX8_put am_N 1900 e0 (tp_C IC q) LC) (fun I7 L7 => am_b2 (fX8_put am_N 1900 e1 I7 L7) (fun I8 L8 => am_b2 (fX8_put am_N 1900 e2 I8 L8) (fun I9 L9 => am_b2 (fX8_put am_N 1900 e3 I9 L9) (fun I10 L10 => am_b2 (fX8_put am_N 1900 e4 I10 L10) (fun I11 L11 => some ((I11 1 1), I11, L11))))))) else some (-1, tp_C IC q, LC) := by
    unfold fX11_feed
    simp only [tp_in _ _ _ _ _ hn, am_b3, am_lt, nI_add, tp_C_len, en]
  rw [Nat.zero_add] at hM
  rw [tp_M_len] at hM
  by_cases h : q.1 + tp_n (tp_w e0 e1 e2 e3 e4) 20 0 ≤ 240
  · left
    rw [if_pos ((hcond _ hlim).mpr h)] at hM hC
    refine ⟨h, ?_, ?_⟩
    · rw [hC]
      rw [en] at h
      rw [tp_pu _ _ _ _ _ _ hn (by omega)]
      simp only [am_b2]
      rw [tp_pu _ _ _ _ _ _ hn (by simp only [tp_p_len]; omega)]
      simp only []
      rw [tp_pu _ _ _ _ _ _ hn (by simp only [tp_p_len]; omega)]
      simp only []
      rw [tp_pu _ _ _ _ _ _ hn (by simp only [tp_p_len]; omega)]
      simp only []
      rw [tp_pu _ _ _ _ _ _ hn (by simp only [tp_p_len]; omega)]
      simp only [tp_C_len]
      rfl
    · rw [hM]
      exact tp_m2 am_N 1900 (am_N - 21) e0 e1 e2 e3 e4 IM LM 20 0 q rfl h
  · right
    rw [if_neg (fun z => h ((hcond _ hlim).mp z))] at hM hC
    exact ⟨hC, hM⟩
/-- end, on both sides -/
theorem tp_end (e0 : Int32) (IC : am_I) (LC : am_L) (IM : am_I) (LM : am_L) (q : Nat × (Nat → Int32)) (hq : q.1 ≤ 240) : (∃ k : Nat, k ≤ q.1 ∧ fX11_end am_N 1900 e0 (tp_C IC q) LC = some (1, tp_C IC (k, q.2), LC) ∧ fX12_end am_N 1900 e0 (tp_M IM q) LM = some (1, tp_M IM (k, q.2), LM)) ∨
    (fX11_end am_N 1900 e0 (tp_C IC q) LC = some (0, tp_C IC q, LC) ∧ fX12_end am_N 1900 e0 (tp_M IM q) LM = some (0, tp_M IM q, LM)) := by
  unfold fX11_end fX12_end am_lt
  rw [tp_C_len, tp_M_len]
  by_cases h0 : e0 < 0
  · right
    rw [if_pos h0, if_pos h0]
    exact ⟨rfl, rfl⟩
  · rw [if_neg h0, if_neg h0]
    by_cases h1 : e0 ≤ nI q.1
    · left
      rw [if_pos h1, if_pos h1]
      obtain ⟨k, hk, e⟩ := nI_of h0
      subst e
      have hk2 := (nI_leI hk (by omega)).mp h1
      refine ⟨k, hk2, ?_, ?_⟩
      · have : am_up (tp_C IC q) 1 1 (nI k) = tp_C IC (k, q.2) := by
          funext a j
          unfold tp_C am_up
          by_cases h1 : a = 1
          · subst h1
            by_cases h2 : j = 1 <;> simp [upd, h2]
          · simp [h1]
        rw [this]
      · have : am_up (tp_M IM q) 0 2 (nI k) = tp_M IM (k, q.2) := by
          funext a j
          unfold tp_M am_up
          by_cases h1 : a = 0
          · subst h1
            by_cases h2 : j = 2 <;> simp [upd, h2]
          · simp [h1]
        rw [this]
    · right
      rw [if_neg h1, if_neg h1]
      exact ⟨rfl, rfl⟩
