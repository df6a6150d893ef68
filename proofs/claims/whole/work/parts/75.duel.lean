/-! PURE: duels: what they are worth. -/
def tnV (v : Bool × Nat) : Bool × Nat := (!v.1, v.2 + 1)
def rk (v : Bool × Nat) : Int := if v.1 = true then 1000 - (v.2 : Int) else (v.2 : Int) - 1000
def btr (v w : Bool × Nat) : Bool := decide (rk w < rk v)
def pk3 (a b c : Bool × Nat) : (Bool × Nat) × Nat := if btr b a = true then (if btr c b = true then (c, 2) else (b, 1)) else (if btr c a = true then (c, 2) else (a, 0))
def dul (g : Nat → Nat → Nat) : Nat → Nat → Nat → Nat → Nat → Nat → Nat → (Bool × Nat) × Nat
  | 0, _, _, _, _, _, _ => ((false, 1), 0)
  | N + 1, x, y, a, r, b, q => if r = 0 then ((if a = 1 then (false, 1) else tnV (dul g N y x b q (a - 1) (gRest g (a - 1))).1), 0) else pk3 (if a = 1 then (false, 1) else tnV (dul g N y x b q (a - 1) (gRest g (a - 1))).1) (tnV (dul g N y x b q a (r - 1)).1) (if b ≤ x then (true, 1) else tnV (dul g N y x (b - x) (gRest g (b - x)) a (r - 1)).1)
theorem pk3_in (P : Bool × Nat → Prop) {a b c : Bool × Nat} (ha : P a) (hb : P b) (hc : P c) : P (pk3 a b c).1 ∧ (pk3 a b c).2 ≤ 2 := by
  unfold pk3
  split
  · split
    · exact ⟨hc, Nat.le_refl _⟩
    · exact ⟨hb, by show 1 ≤ 2; omega⟩
  · split
    · exact ⟨hc, Nat.le_refl _⟩
    · exact ⟨ha, Nat.zero_le _⟩
theorem dul_n (g : Nat → Nat → Nat) : ∀ (N x y a r b q : Nat), (1 ≤ (dul g N x y a r b q).1.2 ∧ (dul g N x y a r b q).1.2 ≤ N + 1) ∧ (dul g N x y a r b q).2 ≤ 2
  | 0, _, _, _, _, _, _ => ⟨⟨Nat.le_refl _, Nat.le_refl _⟩, Nat.zero_le _⟩
  | N + 1, x, y, a, r, b, q => by
    have go : 1 ≤ (if a = 1 then (false, 1) else tnV (dul g N y x b q (a - 1) (gRest g (a - 1))).1).2 ∧ (if a = 1 then (false, 1) else tnV (dul g N y x b q (a - 1) (gRest g (a - 1))).1).2 ≤ N + 2 := by
      split
      · exact ⟨Nat.le_refl _, by show 1 ≤ N + 2; omega⟩
      · have := (dul_n g N y x b q (a - 1) (gRest g (a - 1))).1
        exact ⟨by show 1 ≤ _ + 1; omega, by show _ + 1 ≤ N + 2; omega⟩
    have st : 1 ≤ (tnV (dul g N y x b q a (r - 1)).1).2 ∧ (tnV (dul g N y x b q a (r - 1)).1).2 ≤ N + 2 := by
      have := (dul_n g N y x b q a (r - 1)).1
      exact ⟨by show 1 ≤ _ + 1; omega, by show _ + 1 ≤ N + 2; omega⟩
    have pr : 1 ≤ (if b ≤ x then (true, 1) else tnV (dul g N y x (b - x) (gRest g (b - x)) a (r - 1)).1).2 ∧ (if b ≤ x then (true, 1) else tnV (dul g N y x (b - x) (gRest g (b - x)) a (r - 1)).1).2 ≤ N + 2 := by
      split
      · exact ⟨Nat.le_refl _, by show 1 ≤ N + 2; omega⟩
      · have := (dul_n g N y x (b - x) (gRest g (b - x)) a (r - 1)).1
        exact ⟨by show 1 ≤ _ + 1; omega, by show _ + 1 ≤ N + 2; omega⟩
    unfold dul
    split
    · exact ⟨go, Nat.zero_le _⟩
    · exact pk3_in (fun v => 1 ≤ v.2 ∧ v.2 ≤ N + 2) go st pr
def plc (g : Nat → Nat → Nat) (a r : Nat) : Nat := lwS g a + r
theorem plc_1 (g : Nat → Nat → Nat) {a : Nat} (ha : 1 ≤ a) : lwS g a = plc g (a - 1) (gRest g (a - 1)) + 1 := by
  obtain ⟨k, rfl⟩ : ∃ k, a = k + 1 := ⟨a - 1, by omega⟩
  rw [Nat.add_sub_cancel]; rfl
theorem lwS_m (g : Nat → Nat → Nat) {a b : Nat} (h : a ≤ b) : lwS g a + (b - a) ≤ lwS g b := by
  have := lwS_mono g a (b - a)
  rw [show a + (b - a) = b by omega] at this
  exact this
theorem plc_lt (g : Nat → Nat → Nat) {a b : Nat} (h : a < b) : plc g a (gRest g a) + 1 ≤ lwS g b := by
  have := lwS_m g (a := a + 1) (b := b) h
  have e : lwS g (a + 1) = lwS g a + gRest g a + 1 := rfl
  unfold plc
  omega
theorem dul_f (g : Nat → Nat → Nat) : ∀ (N N' x y a r b q : Nat), 1 ≤ a → 1 ≤ b → 1 ≤ x → 1 ≤ y → plc g a r + plc g b q ≤ N → plc g a r + plc g b q ≤ N' → dul g N x y a r b q = dul g N' x y a r b q
  | 0, _, x, y, a, r, b, q, ha, hb, _, _, h, _ => by
    have := lwS_m g (a := 0) (b := a) (by omega)
    unfold plc at h
    omega
  | _, 0, x, y, a, r, b, q, ha, hb, _, _, _, h => by
    have := lwS_m g (a := 0) (b := a) (by omega)
    unfold plc at h
    omega
  | N + 1, N' + 1, x, y, a, r, b, q, ha, hb, hx, hy, h, h' => by
    have e1 := plc_1 g ha
    have go : (if a = 1 then (false, 1) else tnV (dul g N y x b q (a - 1) (gRest g (a - 1))).1) = (if a = 1 then (false, 1) else tnV (dul g N' y x b q (a - 1) (gRest g (a - 1))).1) := by
      by_cases c : a = 1
      · rw [if_pos c, if_pos c]
      · rw [if_neg c, if_neg c, dul_f g N N' y x b q (a - 1) (gRest g (a - 1)) hb (by omega) hy hx (by unfold plc at *; omega) (by unfold plc at *; omega)]
    unfold dul
    rw [go]
    by_cases c : r = 0
    · rw [if_pos c, if_pos c]
    · rw [if_neg c, if_neg c]
      have st := dul_f g N N' y x b q a (r - 1) hb ha hy hx (by unfold plc at *; omega) (by unfold plc at *; omega)
      rw [st]
      by_cases c2 : b ≤ x
      · rw [if_pos c2, if_pos c2]
      · have e2 := plc_lt g (a := b - x) (b := b) (by omega)
        rw [if_neg c2, if_neg c2, dul_f g N N' y x (b - x) (gRest g (b - x)) a (r - 1) (by omega) ha hy hx (by unfold plc at *; omega) (by unfold plc at *; omega)]
/-- a duel's worth and deed -/
def DU (g : Nat → Nat → Nat) (x y a r b q : Nat) : (Bool × Nat) × Nat := dul g 150 x y a r b q
theorem DU_n (g : Nat → Nat → Nat) (x y a r b q : Nat) : (1 ≤ (DU g x y a r b q).1.2 ∧ (DU g x y a r b q).1.2 ≤ 151) ∧ (DU g x y a r b q).2 ≤ 2 := dul_n g 150 x y a r b q
theorem plc_le {g : Nat → Nat → Nat} (hg : GW g) {a r : Nat} (ha : a ≤ 20) (hr : r ≤ gRest g a) : plc g a r ≤ 74 := by
  have h1 := lwS_le hg (a + 1) (by omega)
  have e : lwS g (a + 1) = lwS g a + gRest g a + 1 := rfl
  unfold plc
  omega
def DGo (g : Nat → Nat → Nat) (x y a b q : Nat) : Bool × Nat := if a = 1 then (false, 1) else tnV (DU g y x b q (a - 1) (gRest g (a - 1))).1
def DSt (g : Nat → Nat → Nat) (x y a r b q : Nat) : Bool × Nat := tnV (DU g y x b q a (r - 1)).1
def DPr (g : Nat → Nat → Nat) (x y a r b : Nat) : Bool × Nat := if b ≤ x then (true, 1) else tnV (DU g y x (b - x) (gRest g (b - x)) a (r - 1)).1
theorem DU_eq {g : Nat → Nat → Nat} (hg : GW g) {x y a r b q : Nat} (hx : 1 ≤ x) (hy : 1 ≤ y) (ha : 1 ≤ a ∧ a ≤ 20) (hb : 1 ≤ b ∧ b ≤ 20) (hr : r ≤ gRest g a) (hq : q ≤ gRest g b) : DU g x y a r b q = if r = 0 then (DGo g x y a b q, 0) else pk3 (DGo g x y a b q) (DSt g x y a r b q) (DPr g x y a r b) := by
  have p1 := plc_le hg ha.2 hr
  have p2 := plc_le hg hb.2 hq
  have e : DU g x y a r b q = dul g 151 x y a r b q := dul_f g 150 151 x y a r b q ha.1 hb.1 hx hy (by omega) (by omega)
  rw [e]
  rfl
theorem dul_sa {g g' : Nat → Nat → Nat} (sa : SA g g') : ∀ (N x y a r b q : Nat), dul g' N x y a r b q = dul g N x y a r b q
  | 0, _, _, _, _, _, _ => rfl
  | N + 1, x, y, a, r, b, q => by
    unfold dul
    rw [dul_sa sa N, dul_sa sa N, dul_sa sa N, gRest_sa sa, gRest_sa sa]
theorem DU_sa {g g' : Nat → Nat → Nat} (sa : SA g g') (x y a r b q : Nat) : DU g' x y a r b q = DU g x y a r b q := dul_sa sa 150 x y a r b q
/-- the model's numbers -/
def svd (v : Bool × Nat) : Int32 := if v.1 = true then nI v.2 else -nI v.2
theorem pm_turned (n d : Nat) (I : am_I) (L : am_L) {v : Bool × Nat} (h1 : 1 ≤ v.2) (h2 : v.2 ≤ 500) : fX12_turned n d (svd v) I L = some (svd (tnV v), I, L) := by
  obtain ⟨b, k⟩ := v
  have h1' : 1 ≤ k := h1
  have h2' : k ≤ 500 := h2
  cases b
  · have e : nI 1 - -nI k = nI (k + 1) := by
      apply Int32.toInt_inj.mp
      rw [Int32.toInt_sub, nt_t (by omega), nI_toInt (by omega), nI_toInt (by omega), Int.bmod_eq_of_le (by omega) (by omega)]
      omega
    have l : (-nI k ≤ nI 0) = True := zz_m5 (by omega)
    show fX12_turned n d (-nI k) I L = some (nI (k + 1), I, L)
    simp (disch := omega) only [fX12_turned, zz_lt, li_0, li_1, li_2, li_3, li_4, li_5, li_6, li_7, li_8, li_9, li_10, li_11, li_12, li_15, li_16, li_20, li_21, li_24, li_25, li_26, li_32, li_33, li_38, li_40, li_41, li_42, li_43, li_45, li_47, li_48, li_57, li_58, li_59, li_60, li_61, li_62, li_63, li_74, li_75, li_84, li_91, li_93, li_98, li_100, li_103, li_105, li_107, li_109, li_110, li_111, li_112, li_115, li_118, li_119, li_120, li_121, li_124, li_140, li_180, li_206, li_240, li_255, li_420, li_520, li_999, li_1000, li_1771, li_8240, li_9999, li_88200, li_1000000, li_2097151, li_31, nI_add, pk_mul, zz_sub, zz_an, nI_clamp, zz_leT, zz_leF, zz_ltT, zz_ltF, zz_eqF, zz_eqT, zz_m1, zz_m2, zz_m3, zz_m4, zz_m5, zz_m6, zz_ck, zz_bl, zz_b3, zz_b2, zz_shl, zz_bt0, zz_bt1, pk_div, Nat.zero_add, Nat.add_zero, if_true, if_false, reduceIte, Nat.mul_zero, zz_or0, zz_inT, zz_inF, l, e]
  · have e : -nI k - nI 1 = -nI (k + 1) := by
      apply Int32.toInt_inj.mp
      rw [Int32.toInt_sub, nt_t (by omega), nI_toInt (by omega), nt_t (by omega), Int.bmod_eq_of_le (by omega) (by omega)]
      omega
    show fX12_turned n d (nI k) I L = some (-nI (k + 1), I, L)
    simp (disch := omega) only [fX12_turned, zz_lt, li_0, li_1, li_2, li_3, li_4, li_5, li_6, li_7, li_8, li_9, li_10, li_11, li_12, li_15, li_16, li_20, li_21, li_24, li_25, li_26, li_32, li_33, li_38, li_40, li_41, li_42, li_43, li_45, li_47, li_48, li_57, li_58, li_59, li_60, li_61, li_62, li_63, li_74, li_75, li_84, li_91, li_93, li_98, li_100, li_103, li_105, li_107, li_109, li_110, li_111, li_112, li_115, li_118, li_119, li_120, li_121, li_124, li_140, li_180, li_206, li_240, li_255, li_420, li_520, li_999, li_1000, li_1771, li_8240, li_9999, li_88200, li_1000000, li_2097151, li_31, nI_add, pk_mul, zz_sub, zz_an, nI_clamp, zz_leT, zz_leF, zz_ltT, zz_ltF, zz_eqF, zz_eqT, zz_m1, zz_m2, zz_m3, zz_m4, zz_m5, zz_m6, zz_ck, zz_bl, zz_b3, zz_b2, zz_shl, zz_bt0, zz_bt1, pk_div, Nat.zero_add, Nat.add_zero, if_true, if_false, reduceIte, Nat.mul_zero, zz_or0, zz_inT, zz_inF, e]
theorem svd_t {v : Bool × Nat} (h2 : v.2 ≤ 500) : (svd v).toInt = if v.1 = true then (v.2 : Int) else -(v.2 : Int) := by
  unfold svd
  split
  · exact nI_toInt (by omega)
  · exact nt_t (by omega)
theorem pm_better (n d : Nat) (I : am_I) (L : am_L) {v w : Bool × Nat} (h1 : 1 ≤ v.2) (h2 : v.2 ≤ 500) (h3 : 1 ≤ w.2) (h4 : w.2 ≤ 500) : fX12_isBetter n d (svd v) (svd w) I L = some (nI (btr v w).toNat, I, L) := by
  have tv := svd_t h2
  have tw := svd_t h4
  unfold fX12_isBetter fX12_isBetter_b13 btr rk
  simp only [Int32.le_iff_toInt_le, Int32.lt_iff_toInt_lt, tv, tw]
  have z : (0 : Int32).toInt = 0 := rfl
  rw [z]
  obtain ⟨b, k⟩ := v
  obtain ⟨b', k'⟩ := w
  have h1' : 1 ≤ k := h1
  have h2' : k ≤ 500 := h2
  have h3' : 1 ≤ k' := h3
  have h4' : k' ≤ 500 := h4
  cases b <;> cases b' <;> simp only [Bool.false_eq_true, if_true, if_false]
  · rw [if_pos (by omega), if_neg (by omega)]
    by_cases c : k' < k
    · rw [if_neg (by omega), decide_eq_true (by omega)]; rfl
    · rw [if_pos (by omega), decide_eq_false (by omega)]; rfl
  · rw [if_pos (by omega), if_pos (by omega), decide_eq_false (by omega)]; rfl
  · rw [if_neg (by omega), if_pos (by omega), decide_eq_true (by omega)]; rfl
  · rw [if_neg (by omega), if_neg (by omega)]
    by_cases c : k < k'
    · rw [if_neg (by omega), decide_eq_true (by omega)]; rfl
    · rw [if_pos (by omega), decide_eq_false (by omega)]; rfl
