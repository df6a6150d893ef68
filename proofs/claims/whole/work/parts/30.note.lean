/-! PURE: the log of the model, its keeping of states; wb_ rows, pf_shr: out of kit/laws/BITS.to-paste -/
theorem zz_lt {α β : Type} (v : α) (K : α → Option β) : am_lt v K = K v := congrFun (congrFun (rfl : (@am_lt α β) = fun v K => K v) v) K
theorem wb_tb (n : Nat) : (lN n).toBitVec = BitVec.ofNat 64 n := rfl
theorem wb_inj {a b : Int64} (h : a.toBitVec = b.toBitVec) : a = b := Int64.toBitVec_inj.mp h
theorem wb_c : ∀ k, k < 64 → ((nI k).toInt64 &&& 63) = lN k := by decide +kernel
theorem wb_sm : ∀ k, k < 64 → (BitVec.ofNat 64 k).smod 64 = BitVec.ofNat 64 k := by decide +kernel
theorem wb_shl (n : Nat) {k : Nat} (hk : k < 64) : lN n <<< ((nI k).toInt64 &&& 63) = lN (n * 2 ^ k) := by
  rw [wb_c k hk]
  apply wb_inj
  rw [Int64.toBitVec_shiftLeft, wb_tb, wb_tb, wb_tb, wb_sm k hk]
  apply BitVec.eq_of_toNat_eq
  rw [BitVec.shiftLeft_eq', BitVec.toNat_shiftLeft, BitVec.toNat_ofNat, BitVec.toNat_ofNat, BitVec.toNat_ofNat, Nat.mod_eq_of_lt (show k < 2 ^ 64 by omega), Nat.shiftLeft_eq, Nat.mul_mod, Nat.mod_mod, ← Nat.mul_mod]
theorem wb_or {a b : Nat} (ha : a < 2 ^ 64) (hb : b < 2 ^ 64) : lN a ||| lN b = lN (a ||| b) := by
  apply wb_inj
  rw [Int64.toBitVec_or, wb_tb, wb_tb, wb_tb]
  apply BitVec.eq_of_toNat_eq
  rw [BitVec.toNat_or, BitVec.toNat_ofNat, BitVec.toNat_ofNat, BitVec.toNat_ofNat, Nat.mod_eq_of_lt ha, Nat.mod_eq_of_lt hb, Nat.mod_eq_of_lt (Nat.or_lt_two_pow ha hb)]
theorem pf_lI {a : Nat} (h : a < 2 ^ 63) : (lN a).toInt = (a : Int) := lg_ofNat_toInt h
theorem pf_shr {a d : Nat} {D : Int64} (hD : (D.toBitVec.smod 64).toNat = d) (h : a < 2 ^ 62) : lN a >>> D = lN (a / 2 ^ d) := by
  have hd : a / 2 ^ d ≤ a := Nat.div_le_self _ _
  apply Int64.toInt_inj.mp
  have e : (lN a >>> D).toInt = (lN a).toInt >>> d := by
    rw [← hD]
    exact BitVec.toInt_sshiftRight ..
  rw [e, Int.shiftRight_eq_div_pow, pf_lI (by omega), pf_lI (by omega)]
  rfl
/-- what a row of numbers of b bits each is, as one -/
def pkd (b : Nat) (p : Nat → Nat) : Nat → Nat
  | 0 => 0
  | m + 1 => pkd b p m + p m * 2 ^ (m * b)
theorem pkd_lt {b : Nat} {p : Nat → Nat} : ∀ k, (∀ m, m < k → p m < 2 ^ b) → pkd b p k < 2 ^ (k * b)
  | 0, _ => by simp [pkd]
  | k + 1, h => by
    have h1 := pkd_lt k (fun m hm => h m (by omega))
    have h2 := h k (by omega)
    unfold pkd
    rw [Nat.add_mul, Nat.one_mul, Nat.pow_add]
    have h3 : p k * 2 ^ (k * b) ≤ (2 ^ b - 1) * 2 ^ (k * b) := Nat.mul_le_mul_right _ (by omega)
    have h4 : (2 ^ b - 1) * 2 ^ (k * b) = 2 ^ (k * b) * 2 ^ b - 2 ^ (k * b) := by
      rw [Nat.sub_mul, Nat.one_mul, Nat.mul_comm]
    have h5 : 2 ^ (k * b) ≤ 2 ^ (k * b) * 2 ^ b := Nat.le_mul_of_pos_right _ (Nat.two_pow_pos b)
    omega
theorem pkd_dv {b : Nat} {p : Nat → Nat} : ∀ k, (∀ m, m < k → p m < 2 ^ b) → ∀ m, m < k → pkd b p k / 2 ^ (m * b) % 2 ^ b = p m
  | 0, _, m, hm => by omega
  | k + 1, h, m, hm => by
    unfold pkd
    by_cases e : m = k
    · subst e
      have h1 := pkd_lt m (fun i hi => h i (by omega))
      rw [Nat.add_mul_div_right _ _ (Nat.two_pow_pos _), Nat.div_eq_of_lt h1, Nat.zero_add, Nat.mod_eq_of_lt (h m (by omega))]
    · have h1 := pkd_dv k (fun i hi => h i (by omega)) m (by omega)
      obtain ⟨c, rfl⟩ : ∃ c, k = m + (1 + c) := ⟨k - m - 1, by omega⟩
      have h2 : p (m + (1 + c)) * 2 ^ ((m + (1 + c)) * b) = 2 ^ (m * b) * (2 ^ b * (p (m + (1 + c)) * 2 ^ (c * b))) := by
        rw [Nat.add_mul, Nat.add_mul, Nat.one_mul, Nat.pow_add, Nat.pow_add]
        simp only [Nat.mul_assoc, Nat.mul_left_comm]
      rw [h2, Nat.add_mul_div_left _ _ (Nat.two_pow_pos _), Nat.add_mul_mod_self_left, h1]
theorem pkd_ext {b : Nat} {p q : Nat → Nat} : ∀ k, (∀ m, m < k → p m = q m) → pkd b p k = pkd b q k
  | 0, _ => rfl
  | k + 1, h => by
    unfold pkd
    rw [pkd_ext k (fun m hm => h m (by omega)), h k (by omega)]
theorem lk_or {P x k : Nat} (hk : k ≤ 40) (hP : P < 2 ^ k) (hx : x < 32) : lN P ||| ((nI x).toInt64 <<< ((nI k).toInt64 &&& 63)) = lN (P + x * 2 ^ k) := by
  have h1 : 2 ^ k ≤ 2 ^ 40 := Nat.pow_le_pow_right (by decide) hk
  have h2 : x * 2 ^ k ≤ 31 * 2 ^ 40 := Nat.mul_le_mul (by omega) h1
  rw [nI_l (by omega), wb_shl x (by omega), wb_or (by omega) (by omega)]
  congr 1
  have := Nat.two_pow_add_eq_or_of_lt hP x
  rw [Nat.mul_comm x, Nat.or_comm, ← this, Nat.add_comm]
theorem lk_un {Q k b : Nat} (hk : k ≤ 40) (hQ : Q < 2 ^ 62) (hb : b ≤ 5) {M : Int32} (hM : M = nI (2 ^ b - 1)) : ((lN Q >>> ((nI k).toInt64 &&& 63)).toInt32 &&& M) = nI (Q / 2 ^ k % 2 ^ b) := by
  have h1 : ((((nI k).toInt64 &&& 63)).toBitVec.smod 64).toNat = k := by
    rw [wb_c k (by omega), wb_tb, wb_sm k (by omega), BitVec.toNat_ofNat, Nat.mod_eq_of_lt (by omega)]
  rw [pf_shr h1 hQ, lN_i, hM]
  have h2 := fun x => pk_and x (m := nI (2 ^ b - 1)) b ((by decide +kernel : ∀ b, b ≤ 5 → (nI (2 ^ b - 1)).toBitVec.toNat = 2 ^ b - 1) b hb)
  rw [h2]
  congr 1
  show (BitVec.ofNat 32 (Q / 2 ^ k)).toNat % 2 ^ b = _
  rw [BitVec.toNat_ofNat]
  exact Nat.mod_mod_of_dvd _ (Nat.pow_dvd_pow 2 (by omega))
/-- the log in a row of 206 -/
def LG (f : Nat → Int32) (w : Nat) (l : Nat → Nat) : Prop := f 25 = nI (min w 60) ∧ (∀ t, t < min w 60 → f (26 + 3 * t) = nI (l (w - min w 60 + t) / 100) ∧ f (26 + 3 * t + 1) = zn (l (w - min w 60 + t) / 10 % 10) ∧ f (26 + 3 * t + 2) = zn (l (w - min w 60 + t) % 10))
def SN (f : Nat → Int32) (μ : Nat) (s : Nat → Nat → Nat) (w : Nat) (l : Nat → Nat) : Prop := (∀ m, m < μ → f m = nI (s 9 m)) ∧ (∀ m, m < μ → f (8 + m) = nI (s 10 m)) ∧ (∀ m, m < μ → f (16 + m) = nI (s 11 m)) ∧ f 24 = nI (s 0 4) ∧ LG f w l
theorem LG_eq {f f' : Nat → Int32} {w : Nat} {l : Nat → Nat} (h : LG f w l) (e : ∀ j, 25 ≤ j → j < 206 → f' j = f j) : LG f' w l := by
  refine ⟨(e 25 (by omega) (by omega)).trans h.1, fun t ht => ?_⟩
  have := h.2 t ht
  rw [e _ (by omega) (by omega), e _ (by omega) (by omega), e _ (by omega) (by omega)]
  exact this
theorem SN_eq {f f' : Nat → Int32} {μ : Nat} {s : Nat → Nat → Nat} {w : Nat} {l : Nat → Nat} (hμ : μ ≤ 8) (h : SN f μ s w l) (e : ∀ j, j < 206 → f' j = f j) : SN f' μ s w l :=
  ⟨fun m hm => (e _ (by omega)).trans (h.1 m hm), fun m hm => (e _ (by omega)).trans (h.2.1 m hm), fun m hm => (e _ (by omega)).trans (h.2.2.1 m hm), (e _ (by omega)).trans h.2.2.2.1, LG_eq h.2.2.2.2 (fun j _ hj => e j hj)⟩
theorem LG_l {f : Nat → Int32} {w : Nat} {l l' : Nat → Nat} (h : LG f w l) (e : ∀ j, j < w → l' j = l j) : LG f w l' := by
  refine ⟨h.1, fun t ht => ?_⟩
  rw [e _ (by omega)]
  exact h.2 t ht
theorem SN_l {f : Nat → Int32} {μ : Nat} {s : Nat → Nat → Nat} {w : Nat} {l l' : Nat → Nat} (h : SN f μ s w l) (e : ∀ j, j < w → l' j = l j) : SN f μ s w l' := ⟨h.1, h.2.1, h.2.2.1, h.2.2.2.1, LG_l h.2.2.2.2 e⟩
def sN (k j : Nat) : Bool := match k with | 17 => decide (25 ≤ j) | _ => false
theorem sN_t {j : Nat} (h : 25 ≤ j) : sN 17 j = true := by simp [sN, h]
theorem pm_note2 (n d : Nat) {I : am_I} (L : am_L) {w : Nat} (hw : w < 60) (h : I 17 25 = nI w) (a1 a2 a3 : Int32) : fX12_note_b62 n d a1 a2 a3 I L = some (am_up (am_up (am_up (am_up I 17 (26 + 3 * w) a1) 17 (26 + 3 * w + 1) a2) 17 (26 + 3 * w + 2) a3) 17 25 (nI (w + 1)), L) := by
  simp (disch := omega) only [fX12_note_b62, zz_lt, li_0, li_1, li_2, li_3, li_4, li_5, li_6, li_7, li_8, li_9, li_10, li_11, li_12, li_15, li_16, li_20, li_21, li_24, li_25, li_26, li_32, li_33, li_38, li_40, li_41, li_42, li_43, li_45, li_47, li_48, li_57, li_58, li_59, li_60, li_61, li_62, li_63, li_74, li_75, li_84, li_91, li_93, li_98, li_100, li_103, li_105, li_107, li_109, li_110, li_111, li_112, li_115, li_118, li_119, li_120, li_121, li_124, li_140, li_180, li_206, li_240, li_255, li_420, li_520, li_999, li_1000, li_1771, li_8240, li_9999, li_88200, li_1000000, li_2097151, li_31, nI_add, pk_mul, zz_sub, zz_an, nI_clamp, zz_leT, zz_leF, zz_ltT, zz_ltF, zz_eqF, zz_eqT, zz_m1, zz_m2, zz_m3, zz_m4, zz_m5, zz_m6, zz_ck, zz_bl, zz_b3, zz_b2, zz_shl, zz_bt0, zz_bt1, pk_div, Nat.zero_add, Nat.add_zero, if_true, if_false, reduceIte, Nat.mul_zero, zz_or0, zz_inT, zz_inF, h, up_s, up_n]
theorem pm_noteS (n d : Nat) (a1 a2 a3 : Int32) (L : am_L) (I : am_I) (F k : Nat) (hk : k < 177) : fX12_note_b15 n d (F + 1) a1 a2 a3 (nI (3 + k)) I L = fX12_note_b15 n d F a1 a2 a3 (nI (3 + (k + 1))) (am_up I 17 (26 + k) (I 17 (29 + k))) L := by
  have e1 : 26 + (3 + k) = 29 + k := by omega
  have e2 : 29 + k - 3 = 26 + k := by omega
  have e3 : 3 + k + 1 = 3 + (k + 1) := by omega
  show fX12_note_b15w n d (fX12_note_b15 n d F) a1 a2 a3 (nI (3 + k)) I L = _
  unfold fX12_note_b15w
  rw [if_neg (by rw [li_180, zz_leF (by omega)]; exact not_false), li_26, nI_add, e1, li_3, zz_sub (by omega), e2, li_1, nI_add, e3]
  rw [zz_ck (by omega), nI_clamp (by omega)]
  show am_ck (nI (26 + k)) 206 _ = _
  rw [zz_ck (by omega), nI_clamp (by omega)]
  rfl
theorem pm_e59 : nI 60 - nI 1 = nI 59 := zz_sub (a := 60) (b := 1) (by omega)
theorem pm_noteE (n d : Nat) (a1 a2 a3 : Int32) (L : am_L) (I : am_I) (F : Nat) (h4 : I 17 25 = nI 60) {a4 : Int32} (ha : (180 : Int32) ≤ a4) : fX12_note_b15 n d (F + 1) a1 a2 a3 a4 I L = fX12_note_b62 n d a1 a2 a3 (am_up I 17 25 (nI 59)) L := by
  rw [fX12_note_b15]
  unfold fX12_note_b15w
  rw [if_pos ha, li_25, li_1, nI_clamp (by omega), h4, zz_ck (by omega), zz_lt, zz_ck (by omega), zz_lt, pm_e59]
theorem pm_noteL (n d : Nat) (a1 a2 a3 : Int32) (L : am_L) (I0 : am_I) {M : Nat} (hM : M = 177) : ∀ (j k F : Nat) (I : am_I), k + j = M → j < F → (∀ y, 26 ≤ y → y < 26 + k → I 17 y = I0 17 (y + 3)) → (∀ y, 26 + k ≤ y → I 17 y = I0 17 y) → am_ag sN I0 I → I 17 25 = nI 60 → ∃ I', fX12_note_b15 n d F a1 a2 a3 (nI (3 + k)) I L = fX12_note_b62 n d a1 a2 a3 (am_up I' 17 25 (nI 59)) L ∧ (∀ y, 26 ≤ y → y < 203 → I' 17 y = I0 17 (y + 3)) ∧ am_ag sN I0 I' := by
  intro j
  induction j with
  | zero =>
    intro k F I e f h1 h2 ha h4
    obtain ⟨G, rfl⟩ : ∃ G, F = G + 1 := ⟨F - 1, by omega⟩
    have ek : 3 + k = 180 := by omega
    refine ⟨I, ?_, fun y g1 g2 => h1 y g1 (by omega), ha⟩
    exact pm_noteE n d a1 a2 a3 L I G h4 (by rw [li_180, zz_leT (by omega)]; exact trivial)
  | succ j ih =>
    intro k F I e f h1 h2 ha h4
    obtain ⟨G, rfl⟩ : ∃ G, F = G + 1 := ⟨F - 1, by omega⟩
    rw [pm_noteS n d a1 a2 a3 L I G k (by omega)]
    refine ih (k + 1) G _ (by omega) (by omega) (fun y g1 g2 => ?_) (fun y g => ?_) (ag_up ha (sN_t (by omega))) ?_
    · by_cases q : y = 26 + k
      · rw [up_s q, h2 _ (by omega), q, show 26 + k + 3 = 29 + k by omega]
      · rw [up_n q]; exact h1 y g1 (by omega)
    · rw [up_n (by omega)]; exact h2 y (by omega)
    · rw [up_n (by omega)]; exact h4
theorem LG_put {f f' : Nat → Int32} {w x : Nat} {l : Nat → Nat} (h25 : f' 25 = nI (min (w + 1) 60)) (ho : ∀ t, t + 1 < min (w + 1) 60 → ∀ i, i < 3 → f' (26 + 3 * t + i) = f (26 + 3 * (t + (w + 1 - min (w + 1) 60) - (w - min w 60)) + i)) (h : LG f w l) (h1 : f' (26 + 3 * (min (w + 1) 60 - 1)) = nI (x / 100)) (h2 : f' (26 + 3 * (min (w + 1) 60 - 1) + 1) = zn (x / 10 % 10)) (h3 : f' (26 + 3 * (min (w + 1) 60 - 1) + 2) = zn (x % 10)) : LG f' (w + 1) (un l w x) := by
  refine ⟨h25, fun t ht => ?_⟩
  by_cases q : t + 1 = min (w + 1) 60
  · have e : t = min (w + 1) 60 - 1 := by omega
    have e2 : w + 1 - min (w + 1) 60 + t = w := by omega
    rw [e2]
    simp only [un, if_true]
    rw [e]
    exact ⟨h1, h2, h3⟩
  · have e2 : w + 1 - min (w + 1) 60 + t ≠ w := by omega
    simp only [un, e2, if_false]
    have := h.2 (t + (w + 1 - min (w + 1) 60) - (w - min w 60)) (by omega)
    have e3 : w - min w 60 + (t + (w + 1 - min (w + 1) 60) - (w - min w 60)) = w + 1 - min (w + 1) 60 + t := by omega
    rw [e3] at this
    have o := ho t (by omega)
    have o0 := o 0 (by omega)
    rw [Nat.add_zero, Nat.add_zero] at o0
    rw [o0, o 1 (by omega), o 2 (by omega)]
    exact this
theorem pm_note (n d : Nat) (hn : 200 < n) {I : am_I} (L : am_L) {w : Nat} {l : Nat → Nat} (h : LG (I 17) w l) {a b c : Nat} (ha : a ≤ 3) (hb : b ≤ 9) (hc : c ≤ 9) : ∃ I', fX12_note n d (nI a) (zn b) (zn c) I L = some (I', L) ∧ LG (I' 17) (w + 1) (un l w (100 * a + 10 * b + c)) ∧ am_ag sN I I' := by
  have x1 : (100 * a + 10 * b + c) / 100 = a := by omega
  have x2 : (100 * a + 10 * b + c) / 10 % 10 = b := by omega
  have x3 : (100 * a + 10 * b + c) % 10 = c := by omega
  by_cases hw : w < 60
  · have m1 : min w 60 = w := by omega
    have m2 : min (w + 1) 60 = w + 1 := by omega
    have h25 := h.1
    rw [m1] at h25
    refine ⟨am_up (am_up (am_up (am_up I 17 (26 + 3 * w) (nI a)) 17 (26 + 3 * w + 1) (zn b)) 17 (26 + 3 * w + 2) (zn c)) 17 25 (nI (w + 1)), ?_, ?_, ag_up (ag_up (ag_up (ag_up ag_rf (sN_t (by omega))) (sN_t (by omega))) (sN_t (by omega))) (sN_t (by omega))⟩
    · rw [← pm_note2 n d L hw h25]
      simp (disch := omega) only [fX12_note, zz_lt, li_0, li_1, li_2, li_3, li_4, li_5, li_6, li_7, li_8, li_9, li_10, li_11, li_12, li_15, li_16, li_20, li_21, li_24, li_25, li_26, li_32, li_33, li_38, li_40, li_41, li_42, li_43, li_45, li_47, li_48, li_57, li_58, li_59, li_60, li_61, li_62, li_63, li_74, li_75, li_84, li_91, li_93, li_98, li_100, li_103, li_105, li_107, li_109, li_110, li_111, li_112, li_115, li_118, li_119, li_120, li_121, li_124, li_140, li_180, li_206, li_240, li_255, li_420, li_520, li_999, li_1000, li_1771, li_8240, li_9999, li_88200, li_1000000, li_2097151, li_31, nI_add, pk_mul, zz_sub, zz_an, nI_clamp, zz_leT, zz_leF, zz_ltT, zz_ltF, zz_eqF, zz_eqT, zz_m1, zz_m2, zz_m3, zz_m4, zz_m5, zz_m6, zz_ck, zz_bl, zz_b3, zz_b2, zz_shl, zz_bt0, zz_bt1, pk_div, Nat.zero_add, Nat.add_zero, if_true, if_false, reduceIte, Nat.mul_zero, zz_or0, zz_inT, zz_inF, h25]
    · refine LG_put (by rw [up_s rfl, m2]) (fun t ht i hi => ?_) h ?_ ?_ ?_
      · rw [up_n (by omega), up_n (by omega), up_n (by omega), up_n (by omega)]
        congr 1
        omega
      · rw [m2, up_n (by omega), up_n (by omega), up_n (by omega), up_s (by omega), x1]
      · rw [m2, up_n (by omega), up_n (by omega), up_s (by omega), x2]
      · rw [m2, up_n (by omega), up_s (by omega), x3]
  · have m1 : min w 60 = 60 := by omega
    have m2 : min (w + 1) 60 = 60 := by omega
    have h25 := h.1
    rw [m1] at h25
    obtain ⟨I', w1, w2, w3⟩ := pm_noteL n d (nI a) (zn b) (zn c) L I rfl 177 0 n I (by omega) (by omega) (fun y _ _ => by omega) (fun y _ => rfl) ag_rf h25
    refine ⟨am_up (am_up (am_up (am_up (am_up I' 17 25 (nI 59)) 17 (26 + 3 * 59) (nI a)) 17 (26 + 3 * 59 + 1) (zn b)) 17 (26 + 3 * 59 + 2) (zn c)) 17 25 (nI (59 + 1)), ?_, ?_, ag_up (ag_up (ag_up (ag_up (ag_up w3 (sN_t (by omega))) (sN_t (by omega))) (sN_t (by omega))) (sN_t (by omega))) (sN_t (by omega))⟩
    · rw [← pm_note2 n d L (by omega) (up_s rfl), ← w1]
      simp (disch := omega) only [fX12_note, zz_lt, li_0, li_1, li_2, li_3, li_4, li_5, li_6, li_7, li_8, li_9, li_10, li_11, li_12, li_15, li_16, li_20, li_21, li_24, li_25, li_26, li_32, li_33, li_38, li_40, li_41, li_42, li_43, li_45, li_47, li_48, li_57, li_58, li_59, li_60, li_61, li_62, li_63, li_74, li_75, li_84, li_91, li_93, li_98, li_100, li_103, li_105, li_107, li_109, li_110, li_111, li_112, li_115, li_118, li_119, li_120, li_121, li_124, li_140, li_180, li_206, li_240, li_255, li_420, li_520, li_999, li_1000, li_1771, li_8240, li_9999, li_88200, li_1000000, li_2097151, li_31, nI_add, pk_mul, zz_sub, zz_an, nI_clamp, zz_leT, zz_leF, zz_ltT, zz_ltF, zz_eqF, zz_eqT, zz_m1, zz_m2, zz_m3, zz_m4, zz_m5, zz_m6, zz_ck, zz_bl, zz_b3, zz_b2, zz_shl, zz_bt0, zz_bt1, pk_div, Nat.zero_add, Nat.add_zero, if_true, if_false, reduceIte, Nat.mul_zero, zz_or0, zz_inT, zz_inF, h25]
    · refine LG_put (by rw [up_s rfl, m2]) (fun t ht i hi => ?_) h ?_ ?_ ?_
      · rw [up_n (by omega), up_n (by omega), up_n (by omega), up_n (by omega), up_n (by omega), w2 _ (by omega) (by omega)]
        congr 1
        omega
      · rw [m2, up_n (by omega), up_n (by omega), up_n (by omega), up_s (by omega), x1]
      · rw [m2, up_n (by omega), up_n (by omega), up_s (by omega), x2]
      · rw [m2, up_n (by omega), up_s (by omega), x3]
/-- copying a state into the kept ones -/
def s18 (k j : Nat) : Bool := match k with | 18 => true | 0 => decide (j = 30) | _ => false
theorem pm_keepL (n d : Nat) (L : am_L) (a : Nat) (ha : a < 40) (I0 : am_I) : ∀ (j k F : Nat) (I : am_I), k + j = 206 → j < F → I 0 30 = nI a → I 17 = I0 17 → (∀ y, y < k → I 18 (206 * a + y) = I0 17 y) → (∀ y, y < 206 * a → I 18 y = I0 18 y) → am_ag s18 I0 I → ∃ I', fX12_keep_b54 n d F (nI k) I L = some (am_up I' 0 30 (nI (a + 1)), L) ∧ (∀ y, y < 206 → I' 18 (206 * a + y) = I0 17 y) ∧ (∀ y, y < 206 * a → I' 18 y = I0 18 y) ∧ am_ag s18 I0 I'
  | _, _, 0, _, _, f, _, _, _, _, _ => by omega
  | 0, k, F + 1, I, e, f, h1, h2, h3, h4, h5 => by
    have e1 : k = 206 := by omega
    subst e1
    exact ⟨I, by simp (disch := omega) only [fX12_keep_b54, fX12_keep_b54w, zz_lt, li_0, li_1, li_2, li_3, li_4, li_5, li_6, li_7, li_8, li_9, li_10, li_11, li_12, li_15, li_16, li_20, li_21, li_24, li_25, li_26, li_32, li_33, li_38, li_40, li_41, li_42, li_43, li_45, li_47, li_48, li_57, li_58, li_59, li_60, li_61, li_62, li_63, li_74, li_75, li_84, li_91, li_93, li_98, li_100, li_103, li_105, li_107, li_109, li_110, li_111, li_112, li_115, li_118, li_119, li_120, li_121, li_124, li_140, li_180, li_206, li_240, li_255, li_420, li_520, li_999, li_1000, li_1771, li_8240, li_9999, li_88200, li_1000000, li_2097151, li_31, nI_add, pk_mul, zz_sub, zz_an, nI_clamp, zz_leT, zz_leF, zz_ltT, zz_ltF, zz_eqF, zz_eqT, zz_m1, zz_m2, zz_m3, zz_m4, zz_m5, zz_m6, zz_ck, zz_bl, zz_b3, zz_b2, zz_shl, zz_bt0, zz_bt1, pk_div, Nat.zero_add, Nat.add_zero, if_true, if_false, reduceIte, Nat.mul_zero, zz_or0, zz_inT, zz_inF, h1], h3, h4, h5⟩
  | j + 1, k, F + 1, I, e, f, h1, h2, h3, h4, h5 => by
    obtain ⟨I', w1, w2⟩ := pm_keepL n d L a ha I0 j (k + 1) F (am_up I 18 (206 * a + k) (I 17 k)) (by omega) (by omega) (by rw [am_up_ne (by omega)]; exact h1) (by rw [am_up_ne (by omega)]; exact h2) (fun y hy => by
      by_cases q : y = k
      · subst q; rw [up_s rfl, h2]
      · rw [up_n (by omega)]; exact h3 y (by omega)) (fun y hy => by rw [up_n (by omega)]; exact h4 y hy) (ag_up h5 rfl)
    refine ⟨I', ?_, w2⟩
    rw [← w1]
    simp (disch := omega) only [fX12_keep_b54, fX12_keep_b54w, zz_lt, li_0, li_1, li_2, li_3, li_4, li_5, li_6, li_7, li_8, li_9, li_10, li_11, li_12, li_15, li_16, li_20, li_21, li_24, li_25, li_26, li_32, li_33, li_38, li_40, li_41, li_42, li_43, li_45, li_47, li_48, li_57, li_58, li_59, li_60, li_61, li_62, li_63, li_74, li_75, li_84, li_91, li_93, li_98, li_100, li_103, li_105, li_107, li_109, li_110, li_111, li_112, li_115, li_118, li_119, li_120, li_121, li_124, li_140, li_180, li_206, li_240, li_255, li_420, li_520, li_999, li_1000, li_1771, li_8240, li_9999, li_88200, li_1000000, li_2097151, li_31, nI_add, pk_mul, zz_sub, zz_an, nI_clamp, zz_leT, zz_leF, zz_ltT, zz_ltF, zz_eqF, zz_eqT, zz_m1, zz_m2, zz_m3, zz_m4, zz_m5, zz_m6, zz_ck, zz_bl, zz_b3, zz_b2, zz_shl, zz_bt0, zz_bt1, pk_div, Nat.zero_add, Nat.add_zero, if_true, if_false, reduceIte, Nat.mul_zero, zz_or0, zz_inT, zz_inF, h1]
theorem pm_keepS (n d : Nat) (L : am_L) (I0 : am_I) {M : Nat} (hM : M = 8034) : ∀ (j k F : Nat) (I : am_I), k + j = M → j < F → I 0 30 = nI 40 → (∀ y, y < k → I 18 y = I0 18 (y + 206)) → (∀ y, k ≤ y → I 18 y = I0 18 y) → am_ag s18 I0 I → ∃ I', fX12_keep_b13 n d F (nI (206 + k)) I L = fX12_keep_b52 n d (am_up I' 0 30 (nI 39)) L ∧ (∀ y, y < 8034 → I' 18 y = I0 18 (y + 206)) ∧ am_ag s18 I0 I'
  | _, _, 0, _, _, f, _, _, _, _ => by omega
  | 0, k, F + 1, I, e, f, h4, h1, h2, ha => by
    refine ⟨I, ?_, fun y g => h1 y (by omega), ha⟩
    simp (disch := omega) only [fX12_keep_b13, fX12_keep_b13w, zz_lt, li_0, li_1, li_2, li_3, li_4, li_5, li_6, li_7, li_8, li_9, li_10, li_11, li_12, li_15, li_16, li_20, li_21, li_24, li_25, li_26, li_32, li_33, li_38, li_40, li_41, li_42, li_43, li_45, li_47, li_48, li_57, li_58, li_59, li_60, li_61, li_62, li_63, li_74, li_75, li_84, li_91, li_93, li_98, li_100, li_103, li_105, li_107, li_109, li_110, li_111, li_112, li_115, li_118, li_119, li_120, li_121, li_124, li_140, li_180, li_206, li_240, li_255, li_420, li_520, li_999, li_1000, li_1771, li_8240, li_9999, li_88200, li_1000000, li_2097151, li_31, nI_add, pk_mul, zz_sub, zz_an, nI_clamp, zz_leT, zz_leF, zz_ltT, zz_ltF, zz_eqF, zz_eqT, zz_m1, zz_m2, zz_m3, zz_m4, zz_m5, zz_m6, zz_ck, zz_bl, zz_b3, zz_b2, zz_shl, zz_bt0, zz_bt1, pk_div, Nat.zero_add, Nat.add_zero, if_true, if_false, reduceIte, Nat.mul_zero, zz_or0, zz_inT, zz_inF, h4]
  | j + 1, k, F + 1, I, e, f, h4, h1, h2, ha => by
    obtain ⟨I', w1, w2⟩ := pm_keepS n d L I0 hM j (k + 1) F (am_up I 18 (206 + k - 206) (I 18 (206 + k))) (by omega) (by omega) (by rw [am_up_ne (by omega)]; exact h4) (fun y g1 => by
      by_cases q : y = 206 + k - 206
      · rw [up_s q, h2 _ (by omega), show y + 206 = 206 + k by omega]
      · rw [up_n q]; exact h1 y (by omega)) (fun y g => by rw [up_n (by omega)]; exact h2 y (by omega)) (ag_up ha rfl)
    refine ⟨I', ?_, w2⟩
    rw [← w1]
    simp (disch := omega) only [fX12_keep_b13, fX12_keep_b13w, zz_lt, li_0, li_1, li_2, li_3, li_4, li_5, li_6, li_7, li_8, li_9, li_10, li_11, li_12, li_15, li_16, li_20, li_21, li_24, li_25, li_26, li_32, li_33, li_38, li_40, li_41, li_42, li_43, li_45, li_47, li_48, li_57, li_58, li_59, li_60, li_61, li_62, li_63, li_74, li_75, li_84, li_91, li_93, li_98, li_100, li_103, li_105, li_107, li_109, li_110, li_111, li_112, li_115, li_118, li_119, li_120, li_121, li_124, li_140, li_180, li_206, li_240, li_255, li_420, li_520, li_999, li_1000, li_1771, li_8240, li_9999, li_88200, li_1000000, li_2097151, li_31, nI_add, pk_mul, zz_sub, zz_an, nI_clamp, zz_leT, zz_leF, zz_ltT, zz_ltF, zz_eqF, zz_eqT, zz_m1, zz_m2, zz_m3, zz_m4, zz_m5, zz_m6, zz_ck, zz_bl, zz_b3, zz_b2, zz_shl, zz_bt0, zz_bt1, pk_div, Nat.zero_add, Nat.add_zero, if_true, if_false, reduceIte, Nat.mul_zero, zz_or0, zz_inT, zz_inF, Nat.add_assoc]
