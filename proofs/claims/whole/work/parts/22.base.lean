/-! PURE: words for all duties. Rewriting rows: every int a nI. -/
theorem li_0 : (0 : Int32) = nI 0 := rfl
theorem li_1 : (1 : Int32) = nI 1 := rfl
theorem li_2 : (2 : Int32) = nI 2 := rfl
theorem li_3 : (3 : Int32) = nI 3 := rfl
theorem li_4 : (4 : Int32) = nI 4 := rfl
theorem li_5 : (5 : Int32) = nI 5 := rfl
theorem li_6 : (6 : Int32) = nI 6 := rfl
theorem li_7 : (7 : Int32) = nI 7 := rfl
theorem li_8 : (8 : Int32) = nI 8 := rfl
theorem li_9 : (9 : Int32) = nI 9 := rfl
theorem li_10 : (10 : Int32) = nI 10 := rfl
theorem li_11 : (11 : Int32) = nI 11 := rfl
theorem li_12 : (12 : Int32) = nI 12 := rfl
theorem li_15 : (15 : Int32) = nI 15 := rfl
theorem li_16 : (16 : Int32) = nI 16 := rfl
theorem li_20 : (20 : Int32) = nI 20 := rfl
theorem li_21 : (21 : Int32) = nI 21 := rfl
theorem li_24 : (24 : Int32) = nI 24 := rfl
theorem li_25 : (25 : Int32) = nI 25 := rfl
theorem li_26 : (26 : Int32) = nI 26 := rfl
theorem li_32 : (32 : Int32) = nI 32 := rfl
theorem li_33 : (33 : Int32) = nI 33 := rfl
theorem li_38 : (38 : Int32) = nI 38 := rfl
theorem li_40 : (40 : Int32) = nI 40 := rfl
theorem li_41 : (41 : Int32) = nI 41 := rfl
theorem li_42 : (42 : Int32) = nI 42 := rfl
theorem li_43 : (43 : Int32) = nI 43 := rfl
theorem li_45 : (45 : Int32) = nI 45 := rfl
theorem li_47 : (47 : Int32) = nI 47 := rfl
theorem li_48 : (48 : Int32) = nI 48 := rfl
theorem li_57 : (57 : Int32) = nI 57 := rfl
theorem li_58 : (58 : Int32) = nI 58 := rfl
theorem li_59 : (59 : Int32) = nI 59 := rfl
theorem li_60 : (60 : Int32) = nI 60 := rfl
theorem li_61 : (61 : Int32) = nI 61 := rfl
theorem li_62 : (62 : Int32) = nI 62 := rfl
theorem li_63 : (63 : Int32) = nI 63 := rfl
theorem li_74 : (74 : Int32) = nI 74 := rfl
theorem li_75 : (75 : Int32) = nI 75 := rfl
theorem li_84 : (84 : Int32) = nI 84 := rfl
theorem li_91 : (91 : Int32) = nI 91 := rfl
theorem li_93 : (93 : Int32) = nI 93 := rfl
theorem li_98 : (98 : Int32) = nI 98 := rfl
theorem li_100 : (100 : Int32) = nI 100 := rfl
theorem li_103 : (103 : Int32) = nI 103 := rfl
theorem li_105 : (105 : Int32) = nI 105 := rfl
theorem li_107 : (107 : Int32) = nI 107 := rfl
theorem li_109 : (109 : Int32) = nI 109 := rfl
theorem li_110 : (110 : Int32) = nI 110 := rfl
theorem li_111 : (111 : Int32) = nI 111 := rfl
theorem li_112 : (112 : Int32) = nI 112 := rfl
theorem li_115 : (115 : Int32) = nI 115 := rfl
theorem li_118 : (118 : Int32) = nI 118 := rfl
theorem li_119 : (119 : Int32) = nI 119 := rfl
theorem li_120 : (120 : Int32) = nI 120 := rfl
theorem li_121 : (121 : Int32) = nI 121 := rfl
theorem li_124 : (124 : Int32) = nI 124 := rfl
theorem li_140 : (140 : Int32) = nI 140 := rfl
theorem li_180 : (180 : Int32) = nI 180 := rfl
theorem li_206 : (206 : Int32) = nI 206 := rfl
theorem li_240 : (240 : Int32) = nI 240 := rfl
theorem li_255 : (255 : Int32) = nI 255 := rfl
theorem li_420 : (420 : Int32) = nI 420 := rfl
theorem li_520 : (520 : Int32) = nI 520 := rfl
theorem li_999 : (999 : Int32) = nI 999 := rfl
theorem li_1000 : (1000 : Int32) = nI 1000 := rfl
theorem li_1771 : (1771 : Int32) = nI 1771 := rfl
theorem li_8240 : (8240 : Int32) = nI 8240 := rfl
theorem li_9999 : (9999 : Int32) = nI 9999 := rfl
theorem li_88200 : (88200 : Int32) = nI 88200 := rfl
theorem li_1000000 : (1000000 : Int32) = nI 1000000 := rfl
theorem li_2097151 : (2097151 : Int32) = nI 2097151 := rfl
theorem li_31 : (31 : Int32) = nI 31 := rfl
theorem zz_sub {a b : Nat} (h : b ≤ a) : nI a - nI b = nI (a - b) := pk_sub h
theorem zz_an {a b : Nat} (h : b ≤ a) : nI a + -nI b = nI (a - b) := by
  rw [← zz_sub h]
  exact (Int32.sub_eq_add_neg (nI a) (nI b)).symm
theorem zz_leT {a b : Nat} (h : a ≤ b ∧ b < 2147483648) : (nI a ≤ nI b) = True := eq_true (nI_le h.1 (by omega))
theorem zz_leF {a b : Nat} (h : b < a ∧ a < 2147483648) : (nI a ≤ nI b) = False := eq_false (nI_ge h.1 (by omega))
theorem zz_ltT {a b : Nat} (h : a < b ∧ b < 2147483648) : (nI a < nI b) = True := eq_true (nI_lt h.1 (by omega))
theorem zz_ltF {a b : Nat} (h : b ≤ a ∧ a < 2147483648) : (nI a < nI b) = False := eq_false (nI_nlt h.1 (by omega))
theorem zz_eqT {a b : Nat} (h : a = b) : (nI a = nI b) = True := eq_true (by rw [h])
theorem zz_eqF {a b : Nat} (h : a ≠ b ∧ a < 2147483648 ∧ b < 2147483648) : (nI a = nI b) = False := eq_false (fun e => h.1 ((nI_eq (by omega) (by omega)).mp e))
theorem zz_ng {k : Nat} (h : k < 2147483648) : (-nI k).toInt = -(k : Int) := by
  have := nI_toInt (n := k) (by omega)
  rw [Int32.toInt_neg, this, Int.bmod_eq_of_le (by omega) (by omega)]
theorem zz_m1 {a k : Nat} (h : 0 < k ∧ k < 2147483648 ∧ a < 2147483648) : (nI a = -nI k) = False := eq_false (fun e => by
  have := congrArg Int32.toInt e
  rw [zz_ng h.2.1, nI_toInt (by omega)] at this
  omega)
theorem zz_m2 {a k : Nat} (h : 0 < k ∧ k < 2147483648 ∧ a < 2147483648) : (-nI k = nI a) = False := eq_false (fun e => by
  have := congrArg Int32.toInt e
  rw [zz_ng h.2.1, nI_toInt (by omega)] at this
  omega)
theorem zz_m3 {a k : Nat} (h : 0 < k ∧ k < 2147483648 ∧ a < 2147483648) : (nI a ≤ -nI k) = False := eq_false (fun e => by
  have := Int32.le_iff_toInt_le.mp e
  rw [zz_ng h.2.1, nI_toInt (by omega)] at this
  omega)
theorem zz_m4 {a k : Nat} (h : 0 < k ∧ k < 2147483648 ∧ a < 2147483648) : (nI a < -nI k) = False := eq_false (fun e => by
  have := Int32.lt_iff_toInt_lt.mp e
  rw [zz_ng h.2.1, nI_toInt (by omega)] at this
  omega)
theorem zz_m5 {a k : Nat} (h : 0 < k ∧ k < 2147483648 ∧ a < 2147483648) : (-nI k ≤ nI a) = True := eq_true (by
  apply Int32.le_iff_toInt_le.mpr
  rw [zz_ng h.2.1, nI_toInt (by omega)]
  omega)
theorem zz_m6 {a k : Nat} (h : 0 < k ∧ k < 2147483648 ∧ a < 2147483648) : (-nI k < nI a) = True := eq_true (by
  apply Int32.lt_iff_toInt_lt.mpr
  rw [zz_ng h.2.1, nI_toInt (by omega)]
  omega)
theorem zz_ck {β : Type} {a N : Nat} {K : Option β} (h : a < N ∧ N < 2147483648) : am_ck (nI a) N K = K := by
  unfold am_ck
  rw [if_pos (by rw [nI_toInt (by omega)]; omega)]
theorem zz_bl {β : Type} {a : Nat} {K : Option β} (h : a ≤ 1) : am_bl (nI a) K = K := by
  unfold am_bl
  rw [if_pos (by rcases (by omega : a = 0 ∨ a = 1) with h | h <;> rw [h] <;> decide)]
theorem zz_b3 {α β : Type} {v : α} {I : am_I} {L : am_L} {K : α → am_I → am_L → Option β} : am_b3 (some (v, I, L)) K = K v I L := rfl
theorem zz_b2 {β : Type} {I : am_I} {L : am_L} {K : am_I → am_L → Option β} : am_b2 (some (I, L)) K = K I L := rfl
theorem zz_shl {a : Nat} (h : a < 31) : nI 1 <<< (nI a &&& nI 31) = nI (2 ^ a) := (by decide +kernel : ∀ a, a < 31 → nI 1 <<< (nI a &&& nI 31) = nI (2 ^ a)) a h
theorem zz_bt {x : Int32} {a : Nat} (h : a < 32) : (x >>> (nI a &&& nI 31)) &&& nI 1 = nI (bt x a).toNat := by
  apply b_ext
  intro i hi
  rw [b_and]
  show (bt (x >>> (nI a &&& 31)) i && bt 1 i) = _
  rw [b_sshr a h x hi]
  have h1 : ∀ i, i < 32 → bt 1 i = decide (i = 0) := by decide +kernel
  rw [h1 i hi]
  by_cases e : i = 0
  · subst e
    rw [if_pos (by omega)]
    cases bt x a <;> rfl
  · cases bt x a
    · simp [e, nI, bt]
    · have h2 : ∀ i, i < 32 → bt (nI (true).toNat) i = decide (i = 0) := by decide +kernel
      rw [h2 i hi]
      simp [e]
theorem zz_bt0 {x : Int32} {a : Nat} (h : a < 32) : ((x >>> (nI a &&& nI 31)) &&& nI 1 = nI 0) = (bt x a = false) := by
  rw [zz_bt h]
  cases bt x a <;> simp [nI] <;> decide
theorem zz_bt1 {x : Int32} {a : Nat} (h : a < 32) : ((x >>> (nI a &&& nI 31)) &&& nI 1 = nI 1) = (bt x a = true) := by
  rw [zz_bt h]
  cases bt x a <;> simp [nI] <;> decide
/-- the set of those below n for whom p holds -/
def am_bits (p : Nat → Bool) : Nat → Int32
  | 0 => nI 0
  | n + 1 => am_bits p n ||| (if p n = true then nI (2 ^ n) else nI 0)
theorem bt_pow : ∀ n, n < 32 → ∀ i, i < 32 → bt (nI (2 ^ n)) i = decide (i = n) := by decide +kernel
theorem bt_bits (p : Nat → Bool) : ∀ n, n ≤ 32 → ∀ i, i < 32 → bt (am_bits p n) i = (decide (i < n) && p i)
  | 0, _, i, _ => by simp [am_bits]; exact b_0 i
  | n + 1, h, i, hi => by
    unfold am_bits
    rw [b_or, bt_bits p n (by omega) i hi]
    cases hp : p n
    · rw [if_neg (by simp)]
      show (_ || bt 0 i) = _
      rw [b_0, Bool.or_false]
      by_cases e : i = n
      · subst e; simp [hp]
      · have : decide (i < n + 1) = decide (i < n) := by simp; omega
        rw [this]
    · rw [if_pos rfl, bt_pow n (by omega) i hi]
      by_cases e : i = n
      · subst e; simp [hp]
      · have : decide (i < n + 1) = decide (i < n) := by simp; omega
        rw [this]
        simp [e]
theorem bits_ext {p q : Nat → Bool} : ∀ {n : Nat}, (∀ i, i < n → p i = q i) → am_bits p n = am_bits q n
  | 0, _ => rfl
  | n + 1, h => by
    unfold am_bits
    rw [bits_ext (n := n) (fun i hi => h i (by omega)), h n (by omega)]
/-- an index or none: 0 is none, k + 1 is k -/
def zn (b : Nat) : Int32 := if b = 0 then -nI 1 else nI (b - 1)
theorem en_0 : zn 0 = -nI 1 := rfl
theorem en_s (k : Nat) : zn (k + 1) = nI k := rfl
/-- the first of the greatest v of those for whom p holds -/
def am_best (p : Nat → Bool) (v : Nat → Nat) : Nat → Nat
  | 0 => 0
  | i + 1 => if p i = true ∧ (am_best p v i = 0 ∨ v (am_best p v i - 1) < v i) then i + 1 else am_best p v i
theorem best_le (p : Nat → Bool) (v : Nat → Nat) : ∀ i, am_best p v i ≤ i
  | 0 => Nat.le_refl _
  | i + 1 => by
    unfold am_best
    have := best_le p v i
    split <;> omega
theorem best_ex (p : Nat → Bool) (v : Nat → Nat) : ∀ n i, i < n → p i = true → 0 < am_best p v n
  | 0, _, h, _ => by omega
  | n + 1, i, h, hp => by
    unfold am_best
    by_cases e : i = n
    · subst e
      split
      · omega
      next q => exact Nat.pos_of_ne_zero (fun z => q ⟨hp, Or.inl z⟩)
    · have := best_ex p v n i (by omega) hp
      split <;> omega
/-- I' is I but where S says -/
def am_ag (S : Nat → Nat → Bool) (I I' : am_I) : Prop := ∀ k j, S k j = false → I' k j = I k j
theorem ag_rf {S : Nat → Nat → Bool} {I : am_I} : am_ag S I I := fun _ _ _ => rfl
theorem ag_tr {S : Nat → Nat → Bool} {I I' I'' : am_I} (h : am_ag S I I') (h2 : am_ag S I' I'') : am_ag S I I'' := fun k j e => (h2 k j e).trans (h k j e)
theorem ag_wk {S S' : Nat → Nat → Bool} {I I' : am_I} (h : am_ag S I I') (hs : ∀ k j, S' k j = false → S k j = false) : am_ag S' I I' := fun k j e => h k j (hs k j e)
theorem ag_up {S : Nat → Nat → Bool} {I I' : am_I} {t i : Nat} {v : Int32} (h : am_ag S I I') (hs : S t i = true) : am_ag S I (am_up I' t i v) := by
  intro k j hk
  rw [← h k j hk]
  unfold am_up
  by_cases h1 : k = t
  · subst h1
    by_cases h2 : j = i
    · subst h2; rw [hs] at hk; cases hk
    · simp [upd, h2]
  · simp [h1]
theorem up_s {I : am_I} {t j i : Nat} {v : Int32} (h : i = j) : am_up I t j v t i = v := by subst h; simp [am_up, upd]
theorem up_n {I : am_I} {t j i : Nat} {v : Int32} (h : i ≠ j) : am_up I t j v t i = I t i := by simp [am_up, upd, h]
/-- in(v, low, high) -/
theorem pm_in (n d : Nat) (v a b : Int32) (I : am_I) (L : am_L) : fX12_in n d v a b I L = some (if v < a ∨ b < v then nI 0 else nI 1, I, L) := by
  unfold fX12_in
  by_cases h1 : v < a
  · rw [if_pos h1, if_pos (Or.inl h1)]; rfl
  · rw [if_neg h1]
    by_cases h2 : b < v
    · rw [if_pos h2, if_pos (Or.inr h2)]; rfl
    · rw [if_neg h2, if_neg (fun h => h.elim h1 h2)]; rfl
theorem am_N_ge (k : Nat) (h : k ≤ 100000) : ∃ m, am_N = k + m := ⟨am_N - k, by unfold am_N; omega⟩
/-- an int: none of the first n, or one of them -/
theorem ix_of (x : Int32) {n : Nat} (hn : n < 2147483648) : (x < nI 0 ∨ nI n ≤ x) ∨ ∃ j : Nat, j < n ∧ x = nI j := by
  rcases pk_ix x hn with h | h | h
  · exact Or.inl (Or.inl h)
  · exact Or.inl (Or.inr h)
  · exact Or.inr h
theorem zz_or0 {x : Int32} : x ||| nI 0 = x := by
  apply b_ext
  intro i hi
  rw [b_or]
  show (bt x i || bt 0 i) = _
  rw [b_0, Bool.or_false]
theorem bt_m1 : ∀ i, i < 32 → bt (-nI 1) i = true := by decide +kernel
theorem bt_all : ∀ k, k ≤ 8 → ∀ i, i < k → bt (nI (2 ^ k - 1)) i = true := by decide +kernel
theorem best_ext {p q : Nat → Bool} {v : Nat → Nat} : ∀ {n : Nat}, (∀ i, i < n → p i = q i) → am_best p v n = am_best q v n
  | 0, _ => rfl
  | n + 1, h => by
    unfold am_best
    rw [best_ext (n := n) (fun i hi => h i (by omega)), h n (by omega)]
theorem J_abs (n d : Nat) (x : Int32) (I : am_I) (L : am_L) : fJ9_abs_0f7a4 n d x I L = some (if nI 0 ≤ x then x else -x, I, L) := by
  unfold fJ9_abs_0f7a4
  rw [li_0]
  split <;> rfl
theorem J_max (n d a b : Nat) (I : am_I) (L : am_L) (ha : a < 2147483648) (hb : b < 2147483648) : fJ9_max_7cf53 n d (nI a) (nI b) I L = some (nI (max a b), I, L) := by
  unfold fJ9_max_7cf53
  by_cases h : a < b
  · rw [if_pos (nI_lt h (by omega)), Nat.max_eq_right (by omega)]
  · rw [if_neg (nI_nlt (by omega) (by omega)), Nat.max_eq_left (by omega)]
theorem J_min (n d a b : Nat) (I : am_I) (L : am_L) (ha : a < 2147483648) (hb : b < 2147483648) : fJ9_min_7cf53 n d (nI a) (nI b) I L = some (nI (min a b), I, L) := by
  unfold fJ9_min_7cf53
  by_cases h : b < a
  · rw [if_pos (nI_lt h (by omega)), Nat.min_eq_right (by omega)]
  · rw [if_neg (nI_nlt (by omega) (by omega)), Nat.min_eq_left (by omega)]
theorem zz_ss (x : Int32) (b c : Nat) : x - nI b - nI c = x - nI (b + c) := by
  rw [← nI_add, Int32.sub_eq_add_neg, Int32.sub_eq_add_neg, Int32.sub_eq_add_neg, Int32.neg_add, Int32.sub_eq_add_neg, Int32.add_assoc]
theorem zz_slT {a b : Nat} (h : a ≤ b ∧ b < 1073741824) : (nI a - nI b ≤ nI 0) = True := eq_true (by
  apply Int32.le_iff_toInt_le.mpr
  rw [pk_sub_toInt (by omega) (by omega), nI_toInt (by omega)]
  omega)
theorem zz_slF {a b : Nat} (h : b < a ∧ a < 1073741824) : (nI a - nI b ≤ nI 0) = False := eq_false (fun q => by
  have := Int32.le_iff_toInt_le.mp q
  rw [pk_sub_toInt (by omega) (by omega), nI_toInt (by omega)] at this
  omega)
/-- all of b are of a -/
theorem sub_and (a b : Int32) : (a &&& b = b) = (b &&& (a ^^^ -nI 1) = nI 0) := by
  apply propext
  constructor
  · intro h
    apply b_ext
    intro i hi
    rw [b_and, b_xor, bt_m1 i hi]
    show _ = bt 0 i
    rw [b_0]
    have := congrArg (fun z => bt z i) h
    simp only [b_and] at this
    revert this
    cases bt a i <;> cases bt b i <;> simp
  · intro h
    apply b_ext
    intro i hi
    have := congrArg (fun z => bt z i) h
    simp only [b_and, b_xor, bt_m1 i hi] at this
    rw [show bt (nI 0) i = false from b_0 i] at this
    rw [b_and]
    revert this
    cases bt a i <;> cases bt b i <;> simp
theorem zz_inT {n d a v b : Nat} {I : am_I} {L : am_L} (h : a ≤ v ∧ v ≤ b ∧ b < 2147483648) : fX12_in n d (nI v) (nI a) (nI b) I L = some (nI 1, I, L) := by
  rw [pm_in, if_neg]
  intro q
  rcases q with q | q
  · exact nI_nlt h.1 (by omega) q
  · exact nI_nlt h.2.1 (by omega) q
theorem zz_inF {n d a v b : Nat} {I : am_I} {L : am_L} (h : (v < a ∨ b < v) ∧ a < 2147483648 ∧ v < 2147483648) : fX12_in n d (nI v) (nI a) (nI b) I L = some (nI 0, I, L) := by
  rw [pm_in, if_pos]
  rcases h.1 with q | q
  · exact Or.inl (nI_lt q (by omega))
  · exact Or.inr (nI_lt q (by omega))
