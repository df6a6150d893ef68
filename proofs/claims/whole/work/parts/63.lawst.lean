/-! PURE: a law's text: states and small steps. -/
def PC (n : Nat) (t : Nat → Nat) (I : am_I) (p c : Nat) : Prop := TC I n t ∧ I 27 3 = nI p ∧ I 27 2 = nI c
def PM (n : Nat) (t : Nat → Nat) (J : am_I) (a : Nat) (w : Int32) (k s m : Nat) : Prop := TM J n t ∧ J 0 3 = nI a ∧ J 0 4 = w ∧ J 0 5 = nI k ∧ J 0 14 = nI s ∧ J 4 s = nI m
/-- the model went wrong at e -/
def ME (J : am_I) (s E e : Nat) : Prop := J 0 4 = nI e ∧ e ≤ 240 ∧ J 0 14 = nI s ∧ ∃ m, m ≤ E ∧ J 4 s = nI m
/-- what the class leaves alone -/
def FC (c : Nat) (I I' : am_I) : Prop := (∀ k, k ≠ 27 → k ≠ 28 → I' k = I k) ∧ (∀ j, j < c → I' 28 j = I 28 j)
def FM (s m : Nat) (J J' : am_I) : Prop := (∀ k, k ≠ 0 → k ≠ 2 → k ≠ 3 → k ≠ 4 → J' k = J k) ∧ (∀ j, j ≠ 3 → j ≠ 4 → j ≠ 5 → J' 0 j = J 0 j) ∧ (∀ x, x < 520 * s + m → J' 2 x = J 2 x) ∧ (∀ x, x < 520 * s + m → J' 3 x = J 3 x) ∧ (∀ x, x ≠ s → J' 4 x = J 4 x)
theorem FC_rf (c : Nat) (I : am_I) : FC c I I := ⟨fun _ _ _ => rfl, fun _ _ => rfl⟩
theorem FC_tr {c c' : Nat} {I I' I2 : am_I} (h : FC c I I') (h2 : FC c' I' I2) (hc : c ≤ c') : FC c I I2 := ⟨fun k a b => (h2.1 k a b).trans (h.1 k a b), fun j hj => (h2.2 j (by omega)).trans (h.2 j hj)⟩
theorem FM_rf (s m : Nat) (J : am_I) : FM s m J J := ⟨fun _ _ _ _ _ => rfl, fun _ _ _ _ => rfl, fun _ _ => rfl, fun _ _ => rfl, fun _ _ => rfl⟩
theorem FM_tr {s m m' : Nat} {J J' J2 : am_I} (h : FM s m J J') (h2 : FM s m' J' J2) (hm : m ≤ m') : FM s m J J2 := ⟨fun k a b c e => (h2.1 k a b c e).trans (h.1 k a b c e), fun j a b c => (h2.2.1 j a b c).trans (h.2.1 j a b c), fun x hx => (h2.2.2.1 x (by omega)).trans (h.2.2.1 x hx), fun x hx => (h2.2.2.2.1 x (by omega)).trans (h.2.2.2.1 x hx), fun x hx => (h2.2.2.2.2 x hx).trans (h.2.2.2.2 x hx)⟩
theorem FC_27 (c : Nat) (I : am_I) (j : Nat) (v : Int32) : FC c I (am_up I 27 j v) := ⟨fun k a _ => am_up_ne a, fun j _ => by rw [am_up_ne (by omega)]⟩
theorem FC_28 {c x : Nat} (hc : c ≤ x) (I : am_I) (v : Int32) : FC c I (am_up I 28 x v) := ⟨fun k _ b => am_up_ne b, fun j hj => up_n (by omega)⟩
theorem FM_0 (s m : Nat) (J : am_I) {j : Nat} (hj : j = 3 ∨ j = 4 ∨ j = 5) (v : Int32) : FM s m J (am_up J 0 j v) := ⟨fun k a _ _ _ => am_up_ne a, fun i _ _ _ => up_n (by omega), fun x _ => by rw [am_up_ne (by omega)], fun x _ => by rw [am_up_ne (by omega)], fun x _ => by rw [am_up_ne (by omega)]⟩
theorem TC_k {n : Nat} {t : Nat → Nat} {I I' : am_I} (h : TC I n t) (e1 : I' 1 = I 1) (e2 : I' 2 = I 2) : TC I' n t := by
  unfold TC at *
  rw [e1, e2]; exact h
theorem TM_k {n : Nat} {t : Nat → Nat} {J J' : am_I} (h : TM J n t) (e1 : J' 0 2 = J 0 2) (e2 : J' 1 = J 1) : TM J' n t := by
  unfold TM at *
  rw [e1, e2]; exact h
section
variable {n : Nat} {t : Nat → Nat} {I J : am_I} {p c a k s m : Nat}
theorem lc_at (hG : GT n t) (f d : Nat) (L : am_L) (h : PC n t I p c) (hp : p ≤ n) : fX8_at f d (nI p) I L = some (zn (bx n t p), I, L) := by
  have := hG.1
  exact pc_at hG f d h.1 L (by omega)
theorem lc_put (f d : Nat) (L : am_L) (h : PC n t I p c) (hc : c < 240) (x : Int32) : fX2_put f d x I L = some (am_up (am_up I 28 c x) 27 2 (nI (c + 1)), L) := by
  have h2 := h.2.2
  have h2' : (am_up I 28 c x) 27 2 = nI c := by rw [am_up_ne (by omega)]; exact h2
  simp (disch := omega) only [fX2_put, zz_lt, li_0, li_1, li_2, li_3, li_4, li_5, li_6, li_7, li_8, li_9, li_10, li_11, li_12, li_15, li_16, li_20, li_21, li_24, li_25, li_26, li_32, li_33, li_38, li_40, li_41, li_42, li_43, li_45, li_47, li_48, li_57, li_58, li_59, li_60, li_61, li_62, li_63, li_74, li_75, li_84, li_91, li_93, li_98, li_100, li_103, li_105, li_107, li_109, li_110, li_111, li_112, li_115, li_118, li_119, li_120, li_121, li_124, li_140, li_180, li_206, li_240, li_255, li_420, li_520, li_999, li_1000, li_1771, li_8240, li_9999, li_88200, li_1000000, li_2097151, li_31, nI_add, pk_mul, zz_sub, zz_an, nI_clamp, zz_leT, zz_leF, zz_ltT, zz_ltF, zz_eqF, zz_eqT, zz_m1, zz_m2, zz_m3, zz_m4, zz_m5, zz_m6, zz_ck, zz_bl, zz_b3, zz_b2, zz_shl, zz_bt0, zz_bt1, pk_div, Nat.zero_add, Nat.add_zero, if_true, if_false, reduceIte, Nat.mul_zero, zz_or0, zz_inT, zz_inF, h2, h2']
theorem PC_put (h : PC n t I p c) (x : Int32) : PC n t (am_up (am_up I 28 c x) 27 2 (nI (c + 1))) p (c + 1) := ⟨TC_k h.1 (by rw [am_up_ne (by omega), am_up_ne (by omega)]) (by rw [am_up_ne (by omega), am_up_ne (by omega)]), by rw [up_n (by omega), am_up_ne (by omega)]; exact h.2.1, up_s rfl⟩
theorem FC_put (I : am_I) (c : Nat) (x v : Int32) : FC c I (am_up (am_up I 28 c x) 27 2 v) := FC_tr (FC_28 (Nat.le_refl _) I x) (FC_27 c _ 2 v) (Nat.le_refl _)
theorem lc_gon (hG : GT n t) (f d : Nat) (hf : 300 < f) (L : am_L) (h : PC n t I p c) (hp : p < n) : fX2_goOn f d I L = some (am_up I 27 3 (nI (nb n t (p + 1))), L) := by
  have b := pc_bb hG f d hf h.1 L (i := p + 1) (by have := hG.1; omega)
  have h3 := h.2.1
  simp (disch := omega) only [fX2_goOn, zz_lt, li_0, li_1, li_2, li_3, li_4, li_5, li_6, li_7, li_8, li_9, li_10, li_11, li_12, li_15, li_16, li_20, li_21, li_24, li_25, li_26, li_32, li_33, li_38, li_40, li_41, li_42, li_43, li_45, li_47, li_48, li_57, li_58, li_59, li_60, li_61, li_62, li_63, li_74, li_75, li_84, li_91, li_93, li_98, li_100, li_103, li_105, li_107, li_109, li_110, li_111, li_112, li_115, li_118, li_119, li_120, li_121, li_124, li_140, li_180, li_206, li_240, li_255, li_420, li_520, li_999, li_1000, li_1771, li_8240, li_9999, li_88200, li_1000000, li_2097151, li_31, nI_add, pk_mul, zz_sub, zz_an, nI_clamp, zz_leT, zz_leF, zz_ltT, zz_ltF, zz_eqF, zz_eqT, zz_m1, zz_m2, zz_m3, zz_m4, zz_m5, zz_m6, zz_ck, zz_bl, zz_b3, zz_b2, zz_shl, zz_bt0, zz_bt1, pk_div, Nat.zero_add, Nat.add_zero, if_true, if_false, reduceIte, Nat.mul_zero, zz_or0, zz_inT, zz_inF, h3, b]
theorem PC_go (h : PC n t I p c) (p' : Nat) : PC n t (am_up I 27 3 (nI p')) p' c := ⟨TC_k h.1 (am_up_ne (by omega)) (am_up_ne (by omega)), up_s rfl, by rw [up_n (by omega)]; exact h.2.2⟩
theorem zn_ch {b : Nat} {ch : Nat} (hb : b ≤ 256) (hc : ch < 256) : (zn b = nI ch) = (b = ch + 1) := by
  unfold zn
  by_cases e : b = 0
  · rw [if_pos e, zz_m2 (by omega)]
    exact propext ⟨fun z => z.elim, fun z => by omega⟩
  · rw [if_neg e]
    by_cases q : b = ch + 1
    · rw [q, Nat.add_sub_cancel]
      exact propext ⟨fun _ => rfl, fun _ => rfl⟩
    · rw [zz_eqF (by omega)]
      exact propext ⟨fun z => z.elim, fun z => absurd z q⟩
theorem lc_takes (hG : GT n t) (f d : Nat) (hf : 300 < f) (L : am_L) (h : PC n t I p c) (hp : p ≤ n) {ch : Nat} (hc : ch < 256) : fX2_takes f d (nI ch) I L = if bx n t p = ch + 1 then some (nI 1, am_up I 27 3 (nI (nb n t (p + 1))), L) else some (nI 0, I, L) := by
  have b := pc_bb hG f d hf h.1 L (i := p + 1) (by have := hG.1; omega)
  have h1 := lc_at hG f d L h hp
  have h3 := h.2.1
  have e := zn_ch (bx_le hG p) hc
  by_cases q : bx n t p = ch + 1
  · rw [if_pos q]
    have e' : (zn (bx n t p) = nI ch) = True := e.trans (eq_true q)
    simp (disch := omega) only [fX2_takes, zz_lt, li_0, li_1, li_2, li_3, li_4, li_5, li_6, li_7, li_8, li_9, li_10, li_11, li_12, li_15, li_16, li_20, li_21, li_24, li_25, li_26, li_32, li_33, li_38, li_40, li_41, li_42, li_43, li_45, li_47, li_48, li_57, li_58, li_59, li_60, li_61, li_62, li_63, li_74, li_75, li_84, li_91, li_93, li_98, li_100, li_103, li_105, li_107, li_109, li_110, li_111, li_112, li_115, li_118, li_119, li_120, li_121, li_124, li_140, li_180, li_206, li_240, li_255, li_420, li_520, li_999, li_1000, li_1771, li_8240, li_9999, li_88200, li_1000000, li_2097151, li_31, nI_add, pk_mul, zz_sub, zz_an, nI_clamp, zz_leT, zz_leF, zz_ltT, zz_ltF, zz_eqF, zz_eqT, zz_m1, zz_m2, zz_m3, zz_m4, zz_m5, zz_m6, zz_ck, zz_bl, zz_b3, zz_b2, zz_shl, zz_bt0, zz_bt1, pk_div, Nat.zero_add, Nat.add_zero, if_true, if_false, reduceIte, Nat.mul_zero, zz_or0, zz_inT, zz_inF, h3, h1, e', b]
  · rw [if_neg q]
    simp (disch := omega) only [fX2_takes, zz_lt, li_0, li_1, li_2, li_3, li_4, li_5, li_6, li_7, li_8, li_9, li_10, li_11, li_12, li_15, li_16, li_20, li_21, li_24, li_25, li_26, li_32, li_33, li_38, li_40, li_41, li_42, li_43, li_45, li_47, li_48, li_57, li_58, li_59, li_60, li_61, li_62, li_63, li_74, li_75, li_84, li_91, li_93, li_98, li_100, li_103, li_105, li_107, li_109, li_110, li_111, li_112, li_115, li_118, li_119, li_120, li_121, li_124, li_140, li_180, li_206, li_240, li_255, li_420, li_520, li_999, li_1000, li_1771, li_8240, li_9999, li_88200, li_1000000, li_2097151, li_31, nI_add, pk_mul, zz_sub, zz_an, nI_clamp, zz_leT, zz_leF, zz_ltT, zz_ltF, zz_eqF, zz_eqT, zz_m1, zz_m2, zz_m3, zz_m4, zz_m5, zz_m6, zz_ck, zz_bl, zz_b3, zz_b2, zz_shl, zz_bt0, zz_bt1, pk_div, Nat.zero_add, Nat.add_zero, if_true, if_false, reduceIte, Nat.mul_zero, zz_or0, zz_inT, zz_inF, h3, h1, e, q]
theorem lm_look (hG : GT n t) (f d : Nat) (hf : 300 < f) (L : am_L) {w : Int32} (h : PM n t J a w k s m) (ha : a ≤ n) : fX12_look f d J L = some (zn (bx n t (nb n t a)), am_up J 0 3 (nI (nb n t a)), L) := by
  have e := mp_self h.2.1 h.2.2.1
  have l := pm_look hG f d hf h.1 L w (a := a) (by have := hG.1; omega)
  rw [← mp_up3 J a (nb n t a) w, e] at l
  exact l
theorem PM_3 {w : Int32} (h : PM n t J a w k s m) (b : Nat) : PM n t (am_up J 0 3 (nI b)) b w k s m := ⟨TM_k h.1 (up_n (by omega)) (am_up_ne (by omega)), up_s rfl, by rw [up_n (by omega)]; exact h.2.2.1, by rw [up_n (by omega)]; exact h.2.2.2.1, by rw [up_n (by omega)]; exact h.2.2.2.2.1, by rw [am_up_ne (by omega)]; exact h.2.2.2.2.2⟩
theorem lm_put (f d : Nat) (L : am_L) (h14 : J 0 14 = nI s) (h4 : J 4 s = nI m) (hs : s ≤ 4) (hm : m < 520) (x y : Int32) : fX12_put f d x y J L = some (am_up (am_up (am_up J 2 (520 * s + m) x) 3 (520 * s + m) y) 4 s (nI (m + 1)), L) := by
  have e1 : (am_up J 2 (520 * s + m) x) 0 14 = nI s := by rw [am_up_ne (by omega)]; exact h14
  have e2 : (am_up J 2 (520 * s + m) x) 4 s = nI m := by rw [am_up_ne (by omega)]; exact h4
  have e3 : (am_up (am_up J 2 (520 * s + m) x) 3 (520 * s + m) y) 0 14 = nI s := by rw [am_up_ne (by omega)]; exact e1
  have e4 : (am_up (am_up J 2 (520 * s + m) x) 3 (520 * s + m) y) 4 s = nI m := by rw [am_up_ne (by omega)]; exact e2
  simp (disch := omega) only [fX12_put, zz_lt, li_0, li_1, li_2, li_3, li_4, li_5, li_6, li_7, li_8, li_9, li_10, li_11, li_12, li_15, li_16, li_20, li_21, li_24, li_25, li_26, li_32, li_33, li_38, li_40, li_41, li_42, li_43, li_45, li_47, li_48, li_57, li_58, li_59, li_60, li_61, li_62, li_63, li_74, li_75, li_84, li_91, li_93, li_98, li_100, li_103, li_105, li_107, li_109, li_110, li_111, li_112, li_115, li_118, li_119, li_120, li_121, li_124, li_140, li_180, li_206, li_240, li_255, li_420, li_520, li_999, li_1000, li_1771, li_8240, li_9999, li_88200, li_1000000, li_2097151, li_31, nI_add, pk_mul, zz_sub, zz_an, nI_clamp, zz_leT, zz_leF, zz_ltT, zz_ltF, zz_eqF, zz_eqT, zz_m1, zz_m2, zz_m3, zz_m4, zz_m5, zz_m6, zz_ck, zz_bl, zz_b3, zz_b2, zz_shl, zz_bt0, zz_bt1, pk_div, Nat.zero_add, Nat.add_zero, if_true, if_false, reduceIte, Nat.mul_zero, zz_or0, zz_inT, zz_inF, h14, h4, e1, e2, e3, e4]
theorem PM_put {w : Int32} (h : PM n t J a w k s m) (x y : Int32) : PM n t (am_up (am_up (am_up J 2 (520 * s + m) x) 3 (520 * s + m) y) 4 s (nI (m + 1))) a w k s (m + 1) := by
  have e : ∀ q, q ≠ 2 → q ≠ 3 → q ≠ 4 → am_up (am_up (am_up J 2 (520 * s + m) x) 3 (520 * s + m) y) 4 s (nI (m + 1)) q = J q := fun q a b c => by rw [am_up_ne c, am_up_ne b, am_up_ne a]
  have e0 := e 0 (by omega) (by omega) (by omega)
  exact ⟨TM_k h.1 (by rw [e0]) (e 1 (by omega) (by omega) (by omega)), by rw [e0]; exact h.2.1, by rw [e0]; exact h.2.2.1, by rw [e0]; exact h.2.2.2.1, by rw [e0]; exact h.2.2.2.2.1, up_s rfl⟩
theorem FM_put (J : am_I) (s m : Nat) (x y v : Int32) : FM s m J (am_up (am_up (am_up J 2 (520 * s + m) x) 3 (520 * s + m) y) 4 s v) := ⟨fun q a b c e => by rw [am_up_ne e, am_up_ne c, am_up_ne b], fun j _ _ _ => by rw [am_up_ne (by omega), am_up_ne (by omega), am_up_ne (by omega)], fun x hx => by rw [am_up_ne (by omega), am_up_ne (by omega), up_n (by omega)], fun x hx => by rw [am_up_ne (by omega), up_n (by omega), am_up_ne (by omega)], fun x hx => by rw [up_n hx, am_up_ne (by omega), am_up_ne (by omega)]⟩
theorem lm_bad {w : Int32} (f d : Nat) (L : am_L) (h : PM n t J a w k s m) (hw : w = -nI 1) : fX12_bad f d J L = some (am_up J 0 4 (nI a), L) := by
  have h3 := h.2.1
  have h4 := h.2.2.1
  rw [hw] at h4
  simp (disch := omega) only [fX12_bad, fX12_bad_b20, zz_lt, li_0, li_1, li_2, li_3, li_4, li_5, li_6, li_7, li_8, li_9, li_10, li_11, li_12, li_15, li_16, li_20, li_21, li_24, li_25, li_26, li_32, li_33, li_38, li_40, li_41, li_42, li_43, li_45, li_47, li_48, li_57, li_58, li_59, li_60, li_61, li_62, li_63, li_74, li_75, li_84, li_91, li_93, li_98, li_100, li_103, li_105, li_107, li_109, li_110, li_111, li_112, li_115, li_118, li_119, li_120, li_121, li_124, li_140, li_180, li_206, li_240, li_255, li_420, li_520, li_999, li_1000, li_1771, li_8240, li_9999, li_88200, li_1000000, li_2097151, li_31, nI_add, pk_mul, zz_sub, zz_an, nI_clamp, zz_leT, zz_leF, zz_ltT, zz_ltF, zz_eqF, zz_eqT, zz_m1, zz_m2, zz_m3, zz_m4, zz_m5, zz_m6, zz_ck, zz_bl, zz_b3, zz_b2, zz_shl, zz_bt0, zz_bt1, pk_div, Nat.zero_add, Nat.add_zero, if_true, if_false, reduceIte, Nat.mul_zero, zz_or0, zz_inT, zz_inF, h3, h4]
theorem ME_put {E e : Nat} (f d : Nat) (L : am_L) (h : ME J s E e) (hs : s ≤ 4) (hE : E < 520) (x y : Int32) (hm : m ≤ E) (hJ : ∃ m', m ≤ m' ∧ m' ≤ E ∧ J 4 s = nI m') : ∃ J', fX12_put f d x y J L = some (J', L) ∧ ME J' s (E + 1) e ∧ FM s m J J' ∧ ∃ m', m ≤ m' ∧ m' ≤ E + 1 ∧ J' 4 s = nI m' := by
  obtain ⟨m', a1, a2, a3⟩ := hJ
  refine ⟨_, lm_put f d L h.2.2.1 a3 hs (by omega) x y, ⟨?_, h.2.1, ?_, m' + 1, by omega, up_s rfl⟩, ?_, m' + 1, by omega, by omega, up_s rfl⟩
  · rw [am_up_ne (by omega), am_up_ne (by omega), am_up_ne (by omega)]; exact h.1
  · rw [am_up_ne (by omega), am_up_ne (by omega), am_up_ne (by omega)]; exact h.2.2.1
  · exact FM_tr (FM_rf s m J) (by
      have q := FM_put J s m' x y (nI (m' + 1))
      exact ⟨q.1, q.2.1, fun x hx => q.2.2.1 x (by omega), fun x hx => q.2.2.2.1 x (by omega), q.2.2.2.2⟩) (Nat.le_refl _)
end
