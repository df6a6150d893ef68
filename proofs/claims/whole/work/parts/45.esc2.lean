/-! PURE: escorts on both sides. -/
def s910 (k j : Nat) : Bool := match k with | 9 => true | 10 => true | _ => false
theorem stM_ag9 (I : am_I) (g : Nat → Nat → Nat) (m : Nat) : am_ag s910 I (stM I g m) := ag_up (ag_up (ag_up (ag_up (ag_up (ag_up ag_rf rfl) rfl) rfl) rfl) rfl) rfl
theorem s10_910 {k j : Nat} (h : s910 k j = false) : s10 k j = false := by
  unfold s10
  split
  · exact absurd h (by simp [s910])
  · rfl
theorem ag_910 {I I' : am_I} (a : am_ag s910 I I') : am_ag scrM I I' := ag_wk a (fun k j h => by
  unfold s910
  split
  · exact absurd h (by simp [scrM])
  · exact absurd h (by simp [scrM])
  · rfl)
theorem pm_homeF {g : Nat → Nat → Nat} {W : Nat → (Nat → Nat) → Int32} {q : Nat → Nat} (hg : GW g) (hl : GL q) (n d : Nat) (hn : 2000 < n) {I : am_I} (h : MS I g) (hL : ML I W q) (L : am_L) {m : Nat} (h2 : m < g 0 0) : ∃ I', fX12_isHome n d (nI m) I L = some (nI (gh W g (q 1) m).toNat, I', L) ∧ am_ag s910 I I' := by
  have b1 := hg.1
  have b3 := hl.1
  have b4 := hl.2
  have by' : ∃ I', fX12_isHomeBy n d (nI m) (zn (q 1)) I L = some (nI (gh W g (q 1) m).toNat, I', L) ∧ am_ag s910 I I' := by
    rcases hq : q 1 with _ | l
    · exact ⟨I, pm_by0 W hg n d h L h2, ag_rf⟩
    · obtain ⟨I', w1, w2⟩ := hL.2.2 l (by omega) n d (stM I g m) L (lam g m) hn (fun k j e => by rw [stM_ne I g m (cd_9 e)]) (fun i hi => ⟨stM_9 I g m i hi, lam_le hg h2 i⟩)
      refine ⟨I', ?_, ag_tr (stM_ag9 I g m) (ag_wk w2 (fun k j e => s10_910 e))⟩
      rw [en_s, pm_by1 hg n d h L h2 (by omega), w1, zz_b3, gh_s]
      by_cases c : nI 0 < W l (lam g m)
      · rw [if_neg (Int32.not_le.mpr c), decide_eq_true c]; rfl
      · rw [if_pos (Int32.not_lt.mp c), decide_eq_false c]; rfl
  obtain ⟨I', w1, w2⟩ := by'
  refine ⟨I', ?_, w2⟩
  have : (gh W g (q 1) m).toNat ≤ 1 := by cases gh W g (q 1) m <;> decide
  simp (disch := omega) only [fX12_isHome, hL.2.1, w1, zz_lt, li_0, li_1, li_2, li_3, li_4, li_5, li_6, li_7, li_8, li_9, li_10, li_11, li_12, li_15, li_16, li_20, li_21, li_24, li_25, li_26, li_32, li_33, li_38, li_40, li_41, li_42, li_43, li_45, li_47, li_48, li_57, li_58, li_59, li_60, li_61, li_62, li_63, li_74, li_75, li_84, li_91, li_93, li_98, li_100, li_103, li_105, li_107, li_109, li_110, li_111, li_112, li_115, li_118, li_119, li_120, li_121, li_124, li_140, li_180, li_206, li_240, li_255, li_420, li_520, li_999, li_1000, li_1771, li_8240, li_9999, li_88200, li_1000000, li_2097151, li_31, nI_add, pk_mul, zz_sub, zz_an, nI_clamp, zz_leT, zz_leF, zz_ltT, zz_ltF, zz_eqF, zz_eqT, zz_m1, zz_m2, zz_m3, zz_m4, zz_m5, zz_m6, zz_ck, zz_bl, zz_b3, zz_b2, zz_shl, zz_bt0, zz_bt1, pk_div, Nat.zero_add, Nat.add_zero, if_true, if_false, reduceIte, Nat.mul_zero, zz_or0, zz_inT, zz_inF]
def ecW (W : Nat → (Nat → Nat) → Int32) (g : Nat → Nat → Nat) (l s : Nat) (m : Nat) : Bool := decide (g 1 m = s) && (!gh W g l m && decide (0 < g 10 m))
def rcW (W : Nat → (Nat → Nat) → Int32) (g : Nat → Nat → Nat) (l : Nat) (m o : Nat) : Bool := decide (g 1 o ≠ g 1 m) && (!gh W g l o && decide (1 ≤ g 9 o ∧ g 9 o ≤ g 3 m))
theorem pm_ce {g : Nat → Nat → Nat} {W : Nat → (Nat → Nat) → Int32} {q : Nat → Nat} (hg : GW g) (hl : GL q) (n d : Nat) (hn : 2000 < n) {I : am_I} (h : MS I g) (hL : ML I W q) (L : am_L) {m s : Nat} (h2 : m < g 0 0) (hs : s < 2) : ∃ I', fX12_canEscort n d (nI m) (nI s) I L = some (nI (ecW W g (q 1) s m).toNat, I', L) ∧ am_ag s910 I I' := by
  have gm := hg.1
  have b1 := hg.2.2.2.2.2.1 m h2
  have b9 := hg.2.2.2.2.2.2.2.2.1 m h2
  have b10 := gRest_le hg (g 9 m)
  have s1 := pm_side hg h n d L h2
  obtain ⟨I1, w1, w2⟩ := pm_homeF hg hl n d hn h hL L h2
  have r1 := (MS_keep h (ag_910 w2)).2.2.2.2.2.2.2.2.2.2.2.2.2.2.1 m h2
  unfold ecW
  by_cases c1 : g 1 m = s
  · refine ⟨I1, ?_, w2⟩
    cases c2 : gh W g (q 1) m <;> by_cases c3 : 0 < g 10 m <;> (rw [c2] at w1; simp (disch := omega) only [fX12_canEscort, zz_lt, li_0, li_1, li_2, li_3, li_4, li_5, li_6, li_7, li_8, li_9, li_10, li_11, li_12, li_15, li_16, li_20, li_21, li_24, li_25, li_26, li_32, li_33, li_38, li_40, li_41, li_42, li_43, li_45, li_47, li_48, li_57, li_58, li_59, li_60, li_61, li_62, li_63, li_74, li_75, li_84, li_91, li_93, li_98, li_100, li_103, li_105, li_107, li_109, li_110, li_111, li_112, li_115, li_118, li_119, li_120, li_121, li_124, li_140, li_180, li_206, li_240, li_255, li_420, li_520, li_999, li_1000, li_1771, li_8240, li_9999, li_88200, li_1000000, li_2097151, li_31, nI_add, pk_mul, zz_sub, zz_an, nI_clamp, zz_leT, zz_leF, zz_ltT, zz_ltF, zz_eqF, zz_eqT, zz_m1, zz_m2, zz_m3, zz_m4, zz_m5, zz_m6, zz_ck, zz_bl, zz_b3, zz_b2, zz_shl, zz_bt0, zz_bt1, pk_div, Nat.zero_add, Nat.add_zero, if_true, if_false, reduceIte, Nat.mul_zero, zz_or0, zz_inT, zz_inF, s1, w1, r1, c1, c3, decide_true, decide_false, Bool.not_true, Bool.not_false, Bool.true_and, Bool.false_and, Bool.toNat_true, Bool.toNat_false])
  · exact ⟨I, by simp (disch := omega) only [fX12_canEscort, zz_lt, li_0, li_1, li_2, li_3, li_4, li_5, li_6, li_7, li_8, li_9, li_10, li_11, li_12, li_15, li_16, li_20, li_21, li_24, li_25, li_26, li_32, li_33, li_38, li_40, li_41, li_42, li_43, li_45, li_47, li_48, li_57, li_58, li_59, li_60, li_61, li_62, li_63, li_74, li_75, li_84, li_91, li_93, li_98, li_100, li_103, li_105, li_107, li_109, li_110, li_111, li_112, li_115, li_118, li_119, li_120, li_121, li_124, li_140, li_180, li_206, li_240, li_255, li_420, li_520, li_999, li_1000, li_1771, li_8240, li_9999, li_88200, li_1000000, li_2097151, li_31, nI_add, pk_mul, zz_sub, zz_an, nI_clamp, zz_leT, zz_leF, zz_ltT, zz_ltF, zz_eqF, zz_eqT, zz_m1, zz_m2, zz_m3, zz_m4, zz_m5, zz_m6, zz_ck, zz_bl, zz_b3, zz_b2, zz_shl, zz_bt0, zz_bt1, pk_div, Nat.zero_add, Nat.add_zero, if_true, if_false, reduceIte, Nat.mul_zero, zz_or0, zz_inT, zz_inF, s1, c1, decide_false, Bool.false_and, Bool.toNat_false], ag_rf⟩
theorem pm_ie {g : Nat → Nat → Nat} {W : Nat → (Nat → Nat) → Int32} {q : Nat → Nat} (hg : GW g) (hl : GL q) (n d : Nat) (hn : 2000 < n) {I : am_I} (h : MS I g) (hL : ML I W q) (L : am_L) {m o : Nat} (h2 : m < g 0 0) (ho : o < g 0 0) : ∃ I', fX12_isEscorted n d (nI m) (nI o) I L = some (nI (rcW W g (q 1) m o).toNat, I', L) ∧ am_ag s910 I I' := by
  have gm := hg.1
  have b1 := hg.2.2.2.2.2.1 m h2
  have b2 := hg.2.2.2.2.2.1 o ho
  have b9 := hg.2.2.2.2.2.2.2.2.1 o ho
  have s1 := pm_side hg h n d L h2
  have s2 := pm_side hg h n d L ho
  obtain ⟨I1, w1, w2⟩ := pm_homeF hg hl n d hn h hL L ho
  have k1 := MS_keep h (ag_910 w2)
  have r0 := k1.2.2.2.2.2.2.2.2.2.2.2.2.2.1 o ho
  have t2 := k1.2.2.2.2.2.2.2.1 m h2
  unfold rcW
  by_cases c1 : g 1 o = g 1 m
  · exact ⟨I, by simp (disch := omega) only [fX12_isEscorted, zz_lt, li_0, li_1, li_2, li_3, li_4, li_5, li_6, li_7, li_8, li_9, li_10, li_11, li_12, li_15, li_16, li_20, li_21, li_24, li_25, li_26, li_32, li_33, li_38, li_40, li_41, li_42, li_43, li_45, li_47, li_48, li_57, li_58, li_59, li_60, li_61, li_62, li_63, li_74, li_75, li_84, li_91, li_93, li_98, li_100, li_103, li_105, li_107, li_109, li_110, li_111, li_112, li_115, li_118, li_119, li_120, li_121, li_124, li_140, li_180, li_206, li_240, li_255, li_420, li_520, li_999, li_1000, li_1771, li_8240, li_9999, li_88200, li_1000000, li_2097151, li_31, nI_add, pk_mul, zz_sub, zz_an, nI_clamp, zz_leT, zz_leF, zz_ltT, zz_ltF, zz_eqF, zz_eqT, zz_m1, zz_m2, zz_m3, zz_m4, zz_m5, zz_m6, zz_ck, zz_bl, zz_b3, zz_b2, zz_shl, zz_bt0, zz_bt1, pk_div, Nat.zero_add, Nat.add_zero, if_true, if_false, reduceIte, Nat.mul_zero, zz_or0, zz_inT, zz_inF, s1, s2, c1, ne_eq, not_true, decide_false, Bool.false_and, Bool.toNat_false], ag_rf⟩
  · refine ⟨I1, ?_, w2⟩
    cases c2 : gh W g (q 1) o
    · rw [c2] at w1
      by_cases c3 : 1 ≤ g 9 o ∧ g 9 o ≤ g 3 m
      · simp (disch := omega) only [fX12_isEscorted, zz_lt, li_0, li_1, li_2, li_3, li_4, li_5, li_6, li_7, li_8, li_9, li_10, li_11, li_12, li_15, li_16, li_20, li_21, li_24, li_25, li_26, li_32, li_33, li_38, li_40, li_41, li_42, li_43, li_45, li_47, li_48, li_57, li_58, li_59, li_60, li_61, li_62, li_63, li_74, li_75, li_84, li_91, li_93, li_98, li_100, li_103, li_105, li_107, li_109, li_110, li_111, li_112, li_115, li_118, li_119, li_120, li_121, li_124, li_140, li_180, li_206, li_240, li_255, li_420, li_520, li_999, li_1000, li_1771, li_8240, li_9999, li_88200, li_1000000, li_2097151, li_31, nI_add, pk_mul, zz_sub, zz_an, nI_clamp, zz_leT, zz_leF, zz_ltT, zz_ltF, zz_eqF, zz_eqT, zz_m1, zz_m2, zz_m3, zz_m4, zz_m5, zz_m6, zz_ck, zz_bl, zz_b3, zz_b2, zz_shl, zz_bt0, zz_bt1, pk_div, Nat.zero_add, Nat.add_zero, if_true, if_false, reduceIte, Nat.mul_zero, zz_or0, zz_inT, zz_inF, s1, s2, w1, r0, t2, c1, c3, ne_eq, not_false_iff, and_self, decide_true, Bool.not_false, Bool.true_and, Bool.toNat_true, Bool.toNat_false]
      · simp (disch := omega) only [fX12_isEscorted, zz_lt, li_0, li_1, li_2, li_3, li_4, li_5, li_6, li_7, li_8, li_9, li_10, li_11, li_12, li_15, li_16, li_20, li_21, li_24, li_25, li_26, li_32, li_33, li_38, li_40, li_41, li_42, li_43, li_45, li_47, li_48, li_57, li_58, li_59, li_60, li_61, li_62, li_63, li_74, li_75, li_84, li_91, li_93, li_98, li_100, li_103, li_105, li_107, li_109, li_110, li_111, li_112, li_115, li_118, li_119, li_120, li_121, li_124, li_140, li_180, li_206, li_240, li_255, li_420, li_520, li_999, li_1000, li_1771, li_8240, li_9999, li_88200, li_1000000, li_2097151, li_31, nI_add, pk_mul, zz_sub, zz_an, nI_clamp, zz_leT, zz_leF, zz_ltT, zz_ltF, zz_eqF, zz_eqT, zz_m1, zz_m2, zz_m3, zz_m4, zz_m5, zz_m6, zz_ck, zz_bl, zz_b3, zz_b2, zz_shl, zz_bt0, zz_bt1, pk_div, Nat.zero_add, Nat.add_zero, if_true, if_false, reduceIte, Nat.mul_zero, zz_or0, zz_inT, zz_inF, s1, s2, w1, r0, t2, c1, c3, ne_eq, not_false_iff, decide_true, decide_false, Bool.not_false, Bool.true_and, Bool.toNat_true, Bool.toNat_false]
    · rw [c2] at w1
      simp (disch := omega) only [fX12_isEscorted, zz_lt, li_0, li_1, li_2, li_3, li_4, li_5, li_6, li_7, li_8, li_9, li_10, li_11, li_12, li_15, li_16, li_20, li_21, li_24, li_25, li_26, li_32, li_33, li_38, li_40, li_41, li_42, li_43, li_45, li_47, li_48, li_57, li_58, li_59, li_60, li_61, li_62, li_63, li_74, li_75, li_84, li_91, li_93, li_98, li_100, li_103, li_105, li_107, li_109, li_110, li_111, li_112, li_115, li_118, li_119, li_120, li_121, li_124, li_140, li_180, li_206, li_240, li_255, li_420, li_520, li_999, li_1000, li_1771, li_8240, li_9999, li_88200, li_1000000, li_2097151, li_31, nI_add, pk_mul, zz_sub, zz_an, nI_clamp, zz_leT, zz_leF, zz_ltT, zz_ltF, zz_eqF, zz_eqT, zz_m1, zz_m2, zz_m3, zz_m4, zz_m5, zz_m6, zz_ck, zz_bl, zz_b3, zz_b2, zz_shl, zz_bt0, zz_bt1, pk_div, Nat.zero_add, Nat.add_zero, if_true, if_false, reduceIte, Nat.mul_zero, zz_or0, zz_inT, zz_inF, s1, s2, w1, c1, ne_eq, not_false_iff, decide_true, Bool.not_true, Bool.true_and, Bool.false_and, Bool.toNat_true, Bool.toNat_false]
theorem tk_bits : ∀ Y, Y < 256 → ∀ o, o < 8 → bt (nI Y) o = false → (nI Y ||| nI (2 ^ o) = nI (Y + 2 ^ o) ∧ Y + 2 ^ o < 256 ∧ g_bc (nI (Y + 2 ^ o)) = g_bc (nI Y) + nI 1) := by decide +kernel
theorem tk_bt {Y o i : Nat} (ho : o < 8) (hi : i < 8) (h : nI Y ||| nI (2 ^ o) = nI (Y + 2 ^ o)) : bt (nI (Y + 2 ^ o)) i = (bt (nI Y) i || decide (i = o)) := by
  rw [← h, b_or, bt_pow o (by omega) i (by omega)]
theorem zn_le {c M : Nat} (hc : c < 1000) (hM : M < 1000) : (nI c ≤ zn M) = (c < M) := by
  rcases M with _ | M
  · rw [en_0, zz_m3 (by omega)]
    simp
  · rw [en_s]
    apply propext
    rw [nI_leI (by omega) (by omega)]
    omega
def scE (k j : Nat) : Bool := s910 k j || (k == 0 && (j == 35 || j == 36))
theorem ag_9E {I I' : am_I} (a : am_ag s910 I I') : am_ag scE I I' := ag_wk a (fun k j h => by
  unfold scE at h
  cases e : s910 k j
  · rfl
  · rw [e] at h; simp at h)
theorem ag_E {I I' : am_I} (a : am_ag scE I I') : am_ag scrM I I' := ag_wk a (fun k j h => by
  unfold scE s910
  split
  · exact absurd h (by simp [scrM])
  · exact absurd h (by simp [scrM])
  · by_cases c : k = 0
    · subst c
      by_cases c1 : j = 35
      · subst c1; exact absurd h (by simp [scrM])
      · by_cases c2 : j = 36
        · subst c2; exact absurd h (by simp [scrM])
        · simp [c1, c2]
    · simp [c])
theorem Bm_le (ec : Nat → Bool) (rc : Nat → Nat → Bool) (μ : Nat) : ∀ j m f, Bm ec rc μ j m f ≤ j
  | 0, _, _ => Nat.le_refl _
  | j + 1, m, f => by
    have ih := Bm_le ec rc μ j
    cases c : ec m
    · rw [Bm_n c]; have := ih (m + 1) f; omega
    · rw [Bm_s c]
      have h1 := ih (m + 1) f
      rcases bo_at (v := fun o => 1 + Bm ec rc μ j (m + 1) (rmv f o)) (p := fun o => f o && rc m o) μ with h | ⟨o, _, _, h⟩
      · omega
      · have h3 := ih (m + 1) (rmv f o)
        have h4 : 1 + Bm ec rc μ j (m + 1) (rmv f o) = bo (fun o => 1 + Bm ec rc μ j (m + 1) (rmv f o)) (fun o => f o && rc m o) μ := h
        omega
/-- what trying does -/
def tryP (n d s : Nat) (L : am_L) (ec : Nat → Bool) (rc : Nat → Nat → Bool) (W : Nat → (Nat → Nat) → Int32) (q : Nat → Nat) (g : Nat → Nat → Nat) (j m : Nat) : Prop := ∀ (I : am_I) (Y row c M : Nat) (f : Nat → Bool), MS I g → ML I W q → I 0 35 = zn M → M ≤ 9 → Y < 256 → (∀ i, i < g 0 0 → bt (nI Y) i = !f i) → g_bc (nI Y) = nI c → c ≤ m → ∃ I', gX12_tryEscorts n d 0 (nI m) (nI s) (nI Y) (nI row) 0 I L = some (0, I', L) ∧ am_ag scE I I' ∧ (I' 0 35 = zn (if M ≤ c + Bm ec rc (g 0 0) j m f then (c + Bm ec rc (g 0 0) j m f + 1, nI (Rm ec rc (g 0 0) j m f row)) else (M, I 0 36)).1 ∧ I' 0 36 = (if M ≤ c + Bm ec rc (g 0 0) j m f then (c + Bm ec rc (g 0 0) j m f + 1, nI (Rm ec rc (g 0 0) j m f row)) else (M, I 0 36)).2)
theorem stf_le {v : Nat → Nat} {p : Nat → Bool} {ρ : Nat → Int32} {c M : Nat} {Q : Int32} (hM : M ≤ 9) (hv : ∀ o, c + v o ≤ 8) : ∀ i, (stf v p ρ c M Q i).1 ≤ 9
  | 0 => hM
  | i + 1 => by
    have := stf_le (p := p) (ρ := ρ) (Q := Q) hM hv i
    have := hv i
    unfold stf
    split
    · split
      · show c + v i + 1 ≤ 9; omega
      · assumption
    · assumption
theorem pm_tryL {g : Nat → Nat → Nat} {W : Nat → (Nat → Nat) → Int32} {q : Nat → Nat} (hg : GW g) (hl : GL q) {s : Nat} (hs : s < 2) (n d : Nat) (hn : 2000 < n) (L : am_L) {j m : Nat} (hj : m + 1 + j = g 0 0) (IH : tryP n d s L (ecW W g (q 1) s) (rcW W g (q 1)) W q g j (m + 1)) {Y row c M : Nat} {f : Nat → Bool} {Q : Int32} (hM : M ≤ 9) (hY : Y < 256) (hf : ∀ i, i < g 0 0 → bt (nI Y) i = !f i) (hc : g_bc (nI Y) = nI c) (hcm : c ≤ m) : ∀ (t i F : Nat) (I : am_I), i + t = g 0 0 → t < F → MS I g → ML I W q → I 0 35 = zn (stf (fun o => 1 + Bm (ecW W g (q 1) s) (rcW W g (q 1)) (g 0 0) j (m + 1) (rmv f o)) (fun o => f o && rcW W g (q 1) m o) (fun o => nI (Rm (ecW W g (q 1) s) (rcW W g (q 1)) (g 0 0) j (m + 1) (rmv f o) (10 * row + o))) c M Q i).1 → I 0 36 = (stf (fun o => 1 + Bm (ecW W g (q 1) s) (rcW W g (q 1)) (g 0 0) j (m + 1) (rmv f o)) (fun o => f o && rcW W g (q 1) m o) (fun o => nI (Rm (ecW W g (q 1) s) (rcW W g (q 1)) (g 0 0) j (m + 1) (rmv f o) (10 * row + o))) c M Q i).2 → ∃ I1, fX12_tryEscorts_b58 n d (gX12_tryEscorts n d) F (nI m) (nI s) (nI Y) (nI row) (nI i) I L = am_b3 (gX12_tryEscorts n d 0 (nI (m + 1)) (nI s) (nI Y) (nI (10 * row + 9)) 0 I1 L) (fun v1 I1 L1 => some (I1, L1)) ∧ am_ag scE I I1 ∧ I1 0 35 = zn (stf (fun o => 1 + Bm (ecW W g (q 1) s) (rcW W g (q 1)) (g 0 0) j (m + 1) (rmv f o)) (fun o => f o && rcW W g (q 1) m o) (fun o => nI (Rm (ecW W g (q 1) s) (rcW W g (q 1)) (g 0 0) j (m + 1) (rmv f o) (10 * row + o))) c M Q (g 0 0)).1 ∧ I1 0 36 = (stf (fun o => 1 + Bm (ecW W g (q 1) s) (rcW W g (q 1)) (g 0 0) j (m + 1) (rmv f o)) (fun o => f o && rcW W g (q 1) m o) (fun o => nI (Rm (ecW W g (q 1) s) (rcW W g (q 1)) (g 0 0) j (m + 1) (rmv f o) (10 * row + o))) c M Q (g 0 0)).2
  | _, _, 0, _, _, fu, _, _, _, _ => by omega
  | 0, i, F + 1, I, e, fu, h, hL, h1, h2 => by
    have gm := hg.1
    have hm := h.1
    have e1 : i = g 0 0 := by omega
    subst e1
    exact ⟨I, by simp (disch := omega) only [fX12_tryEscorts_b58, fX12_tryEscorts_b58w, zz_lt, li_0, li_1, li_2, li_3, li_4, li_5, li_6, li_7, li_8, li_9, li_10, li_11, li_12, li_15, li_16, li_20, li_21, li_24, li_25, li_26, li_32, li_33, li_38, li_40, li_41, li_42, li_43, li_45, li_47, li_48, li_57, li_58, li_59, li_60, li_61, li_62, li_63, li_74, li_75, li_84, li_91, li_93, li_98, li_100, li_103, li_105, li_107, li_109, li_110, li_111, li_112, li_115, li_118, li_119, li_120, li_121, li_124, li_140, li_180, li_206, li_240, li_255, li_420, li_520, li_999, li_1000, li_1771, li_8240, li_9999, li_88200, li_1000000, li_2097151, li_31, nI_add, pk_mul, zz_sub, zz_an, nI_clamp, zz_leT, zz_leF, zz_ltT, zz_ltF, zz_eqF, zz_eqT, zz_m1, zz_m2, zz_m3, zz_m4, zz_m5, zz_m6, zz_ck, zz_bl, zz_b3, zz_b2, zz_shl, zz_bt0, zz_bt1, pk_div, Nat.zero_add, Nat.add_zero, if_true, if_false, reduceIte, Nat.mul_zero, zz_or0, zz_inT, zz_inF, hm], ag_rf, h1, h2⟩
  | t + 1, i, F + 1, I, e, fu, h, hL, h1, h2 => by
    have gm := hg.1
    have hm := h.1
    have i1 : i < g 0 0 := by omega
    have hh := pm_has n d (nI Y) i I L (by omega)
    have hfi := hf i i1
    rw [hfi] at hh
    have nxt := fun I1 a1 a2 a3 a4 => pm_tryL hg hl hs n d hn L hj IH (f := f) (Q := Q) (row := row) hM hY hf hc hcm t (i + 1) F I1 (by omega) (by omega) a1 a2 a3 a4
    have stp : stf (fun o => 1 + Bm (ecW W g (q 1) s) (rcW W g (q 1)) (g 0 0) j (m + 1) (rmv f o)) (fun o => f o && rcW W g (q 1) m o) (fun o => nI (Rm (ecW W g (q 1) s) (rcW W g (q 1)) (g 0 0) j (m + 1) (rmv f o) (10 * row + o))) c M Q (i + 1) = if (f i && rcW W g (q 1) m i) = true then (if (stf (fun o => 1 + Bm (ecW W g (q 1) s) (rcW W g (q 1)) (g 0 0) j (m + 1) (rmv f o)) (fun o => f o && rcW W g (q 1) m o) (fun o => nI (Rm (ecW W g (q 1) s) (rcW W g (q 1)) (g 0 0) j (m + 1) (rmv f o) (10 * row + o))) c M Q i).1 ≤ c + (1 + Bm (ecW W g (q 1) s) (rcW W g (q 1)) (g 0 0) j (m + 1) (rmv f i)) then (c + (1 + Bm (ecW W g (q 1) s) (rcW W g (q 1)) (g 0 0) j (m + 1) (rmv f i)) + 1, nI (Rm (ecW W g (q 1) s) (rcW W g (q 1)) (g 0 0) j (m + 1) (rmv f i) (10 * row + i))) else stf (fun o => 1 + Bm (ecW W g (q 1) s) (rcW W g (q 1)) (g 0 0) j (m + 1) (rmv f o)) (fun o => f o && rcW W g (q 1) m o) (fun o => nI (Rm (ecW W g (q 1) s) (rcW W g (q 1)) (g 0 0) j (m + 1) (rmv f o) (10 * row + o))) c M Q i) else stf (fun o => 1 + Bm (ecW W g (q 1) s) (rcW W g (q 1)) (g 0 0) j (m + 1) (rmv f o)) (fun o => f o && rcW W g (q 1) m o) (fun o => nI (Rm (ecW W g (q 1) s) (rcW W g (q 1)) (g 0 0) j (m + 1) (rmv f o) (10 * row + o))) c M Q i := rfl
    have sle := stf_le (v := (fun o => 1 + Bm (ecW W g (q 1) s) (rcW W g (q 1)) (g 0 0) j (m + 1) (rmv f o))) (p := (fun o => f o && rcW W g (q 1) m o)) (ρ := (fun o => nI (Rm (ecW W g (q 1) s) (rcW W g (q 1)) (g 0 0) j (m + 1) (rmv f o) (10 * row + o)))) (c := c) (M := M) (Q := Q) hM (fun o => by
      have := Bm_le (ecW W g (q 1) s) (rcW W g (q 1)) (g 0 0) j (m + 1) (rmv f o)
      show c + (1 + _) ≤ 8
      omega) i
    cases cf : f i
    · rw [cf] at hh stp
      rw [Bool.false_and, if_neg (by decide)] at stp
      obtain ⟨I1, w1, w2⟩ := nxt I h hL (by rw [stp]; exact h1) (by rw [stp]; exact h2)
      refine ⟨I1, ?_, w2⟩
      rw [← w1]
      simp (disch := omega) only [fX12_tryEscorts_b58, fX12_tryEscorts_b58w, fX12_tryEscorts_b108, zz_lt, li_0, li_1, li_2, li_3, li_4, li_5, li_6, li_7, li_8, li_9, li_10, li_11, li_12, li_15, li_16, li_20, li_21, li_24, li_25, li_26, li_32, li_33, li_38, li_40, li_41, li_42, li_43, li_45, li_47, li_48, li_57, li_58, li_59, li_60, li_61, li_62, li_63, li_74, li_75, li_84, li_91, li_93, li_98, li_100, li_103, li_105, li_107, li_109, li_110, li_111, li_112, li_115, li_118, li_119, li_120, li_121, li_124, li_140, li_180, li_206, li_240, li_255, li_420, li_520, li_999, li_1000, li_1771, li_8240, li_9999, li_88200, li_1000000, li_2097151, li_31, nI_add, pk_mul, zz_sub, zz_an, nI_clamp, zz_leT, zz_leF, zz_ltT, zz_ltF, zz_eqF, zz_eqT, zz_m1, zz_m2, zz_m3, zz_m4, zz_m5, zz_m6, zz_ck, zz_bl, zz_b3, zz_b2, zz_shl, zz_bt0, zz_bt1, pk_div, Nat.zero_add, Nat.add_zero, if_true, if_false, reduceIte, Nat.mul_zero, zz_or0, zz_inT, zz_inF, hm, hh, Bool.not_false, Bool.toNat_true]
    · rw [cf] at hh stp hfi
      obtain ⟨I2, v1, v2⟩ := pm_ie hg hl n d hn h hL L (m := m) (o := i) (by omega) i1
      have k1 := MS_keep h (ag_910 v2)
      have k2 := ML_keep hl hL (ag_910 v2)
      have k3 : I2 0 35 = I 0 35 := v2 0 35 rfl
      have k4 : I2 0 36 = I 0 36 := v2 0 36 rfl
      cases cr : rcW W g (q 1) m i
      · rw [cr] at v1 stp
        rw [Bool.and_false, if_neg (by decide)] at stp
        obtain ⟨I1, w1, w2, w3⟩ := nxt I2 k1 k2 (by rw [stp, k3]; exact h1) (by rw [stp, k4]; exact h2)
        refine ⟨I1, ?_, ag_tr (ag_9E v2) w2, w3⟩
        rw [← w1]
        simp (disch := omega) only [fX12_tryEscorts_b58, fX12_tryEscorts_b58w, fX12_tryEscorts_b108, zz_lt, li_0, li_1, li_2, li_3, li_4, li_5, li_6, li_7, li_8, li_9, li_10, li_11, li_12, li_15, li_16, li_20, li_21, li_24, li_25, li_26, li_32, li_33, li_38, li_40, li_41, li_42, li_43, li_45, li_47, li_48, li_57, li_58, li_59, li_60, li_61, li_62, li_63, li_74, li_75, li_84, li_91, li_93, li_98, li_100, li_103, li_105, li_107, li_109, li_110, li_111, li_112, li_115, li_118, li_119, li_120, li_121, li_124, li_140, li_180, li_206, li_240, li_255, li_420, li_520, li_999, li_1000, li_1771, li_8240, li_9999, li_88200, li_1000000, li_2097151, li_31, nI_add, pk_mul, zz_sub, zz_an, nI_clamp, zz_leT, zz_leF, zz_ltT, zz_ltF, zz_eqF, zz_eqT, zz_m1, zz_m2, zz_m3, zz_m4, zz_m5, zz_m6, zz_ck, zz_bl, zz_b3, zz_b2, zz_shl, zz_bt0, zz_bt1, pk_div, Nat.zero_add, Nat.add_zero, if_true, if_false, reduceIte, Nat.mul_zero, zz_or0, zz_inT, zz_inF, hm, hh, v1, Bool.not_true, Bool.toNat_false]
      · rw [cr] at v1 stp
        rw [Bool.and_self, if_pos rfl] at stp
        obtain ⟨b1, b2, b3⟩ := tk_bits Y hY i (by omega) hfi
        obtain ⟨I3, x1, x2, x3, x4⟩ := IH I2 (Y + 2 ^ i) (10 * row + i) (c + 1) (stf (fun o => 1 + Bm (ecW W g (q 1) s) (rcW W g (q 1)) (g 0 0) j (m + 1) (rmv f o)) (fun o => f o && rcW W g (q 1) m o) (fun o => nI (Rm (ecW W g (q 1) s) (rcW W g (q 1)) (g 0 0) j (m + 1) (rmv f o) (10 * row + o))) c M Q i).1 (rmv f i) k1 k2 (by rw [k3]; exact h1) sle b2 (fun k hk => by
          rw [tk_bt (by omega) (by omega) b1, hf k hk]
          unfold rmv
          by_cases z : k = i
          · rw [if_pos z, z]; simp
          · rw [if_neg z]; simp [z]) (by rw [b3, hc, nI_add]) (by omega)
        have ea : c + 1 + Bm (ecW W g (q 1) s) (rcW W g (q 1)) (g 0 0) j (m + 1) (rmv f i) = c + (1 + Bm (ecW W g (q 1) s) (rcW W g (q 1)) (g 0 0) j (m + 1) (rmv f i)) := by omega
        rw [ea] at x3 x4
        have ek : (if (stf (fun o => 1 + Bm (ecW W g (q 1) s) (rcW W g (q 1)) (g 0 0) j (m + 1) (rmv f o)) (fun o => f o && rcW W g (q 1) m o) (fun o => nI (Rm (ecW W g (q 1) s) (rcW W g (q 1)) (g 0 0) j (m + 1) (rmv f o) (10 * row + o))) c M Q i).1 ≤ c + (1 + Bm (ecW W g (q 1) s) (rcW W g (q 1)) (g 0 0) j (m + 1) (rmv f i)) then (c + (1 + Bm (ecW W g (q 1) s) (rcW W g (q 1)) (g 0 0) j (m + 1) (rmv f i)) + 1, nI (Rm (ecW W g (q 1) s) (rcW W g (q 1)) (g 0 0) j (m + 1) (rmv f i) (10 * row + i))) else ((stf (fun o => 1 + Bm (ecW W g (q 1) s) (rcW W g (q 1)) (g 0 0) j (m + 1) (rmv f o)) (fun o => f o && rcW W g (q 1) m o) (fun o => nI (Rm (ecW W g (q 1) s) (rcW W g (q 1)) (g 0 0) j (m + 1) (rmv f o) (10 * row + o))) c M Q i).1, I2 0 36)) = stf (fun o => 1 + Bm (ecW W g (q 1) s) (rcW W g (q 1)) (g 0 0) j (m + 1) (rmv f o)) (fun o => f o && rcW W g (q 1) m o) (fun o => nI (Rm (ecW W g (q 1) s) (rcW W g (q 1)) (g 0 0) j (m + 1) (rmv f o) (10 * row + o))) c M Q (i + 1) := by
          rw [stp, k4, h2]
        rw [ek] at x3 x4
        obtain ⟨I1, w1, w2, w3⟩ := nxt I3 (MS_keep k1 (ag_E x2)) (ML_keep hl k2 (ag_E x2)) x3 x4
        refine ⟨I1, ?_, ag_tr (ag_tr (ag_9E v2) x2) w2, w3⟩
        rw [← w1]
        have x1' : gX12_tryEscorts n d 0 (nI (m + 1)) (nI s) (nI (Y + 2 ^ i)) (nI (10 * row + i)) (nI 0) I2 L = some (0, I3, L) := x1
        simp (disch := omega) only [fX12_tryEscorts_b58, fX12_tryEscorts_b58w, fX12_tryEscorts_b108, zz_lt, li_0, li_1, li_2, li_3, li_4, li_5, li_6, li_7, li_8, li_9, li_10, li_11, li_12, li_15, li_16, li_20, li_21, li_24, li_25, li_26, li_32, li_33, li_38, li_40, li_41, li_42, li_43, li_45, li_47, li_48, li_57, li_58, li_59, li_60, li_61, li_62, li_63, li_74, li_75, li_84, li_91, li_93, li_98, li_100, li_103, li_105, li_107, li_109, li_110, li_111, li_112, li_115, li_118, li_119, li_120, li_121, li_124, li_140, li_180, li_206, li_240, li_255, li_420, li_520, li_999, li_1000, li_1771, li_8240, li_9999, li_88200, li_1000000, li_2097151, li_31, nI_add, pk_mul, zz_sub, zz_an, nI_clamp, zz_leT, zz_leF, zz_ltT, zz_ltF, zz_eqF, zz_eqT, zz_m1, zz_m2, zz_m3, zz_m4, zz_m5, zz_m6, zz_ck, zz_bl, zz_b3, zz_b2, zz_shl, zz_bt0, zz_bt1, pk_div, Nat.zero_add, Nat.add_zero, if_true, if_false, reduceIte, Nat.mul_zero, zz_or0, zz_inT, zz_inF, hm, hh, v1, b1, x1', Bool.not_true, Bool.toNat_true, Bool.toNat_false]
theorem pm_try {g : Nat → Nat → Nat} {W : Nat → (Nat → Nat) → Int32} {q : Nat → Nat} (hg : GW g) (hl : GL q) {s : Nat} (hs : s < 2) (n : Nat) (hn : 2000 < n) (L : am_L) : ∀ (j m d : Nat), m + j = g 0 0 → j < d → tryP n d s L (ecW W g (q 1) s) (rcW W g (q 1)) W q g j m
  | _, _, 0, _, f => by omega
  | 0, m, d + 1, e, fd => by
    intro I Y row c M f h hL h35 hM hY hf hc hcm
    have gm := hg.1
    have hm := h.1
    have e1 : m = g 0 0 := by omega
    subst e1
    have b0 : Bm (ecW W g (q 1) s) (rcW W g (q 1)) (g 0 0) 0 (g 0 0) f = 0 := rfl
    have r0 : Rm (ecW W g (q 1) s) (rcW W g (q 1)) (g 0 0) 0 (g 0 0) f row = row := rfl
    have bc := fun I L => J_bc n d (nI Y) I L
    simp only [b0, r0, Nat.add_zero]
    have zl := zn_le (c := c) (M := M) (by omega) (by omega)
    by_cases c1 : M ≤ c
    · refine ⟨am_up (am_up I 0 35 (nI c)) 0 36 (nI row), ?_, ag_up (ag_up ag_rf rfl) rfl, ?_, ?_⟩
      · have z2 : ¬ c < M := by omega
        simp (disch := omega) only [gX12_tryEscorts, fX12_tryEscorts_g, zz_lt, li_0, li_1, li_2, li_3, li_4, li_5, li_6, li_7, li_8, li_9, li_10, li_11, li_12, li_15, li_16, li_20, li_21, li_24, li_25, li_26, li_32, li_33, li_38, li_40, li_41, li_42, li_43, li_45, li_47, li_48, li_57, li_58, li_59, li_60, li_61, li_62, li_63, li_74, li_75, li_84, li_91, li_93, li_98, li_100, li_103, li_105, li_107, li_109, li_110, li_111, li_112, li_115, li_118, li_119, li_120, li_121, li_124, li_140, li_180, li_206, li_240, li_255, li_420, li_520, li_999, li_1000, li_1771, li_8240, li_9999, li_88200, li_1000000, li_2097151, li_31, nI_add, pk_mul, zz_sub, zz_an, nI_clamp, zz_leT, zz_leF, zz_ltT, zz_ltF, zz_eqF, zz_eqT, zz_m1, zz_m2, zz_m3, zz_m4, zz_m5, zz_m6, zz_ck, zz_bl, zz_b3, zz_b2, zz_shl, zz_bt0, zz_bt1, pk_div, Nat.zero_add, Nat.add_zero, if_true, if_false, reduceIte, Nat.mul_zero, zz_or0, zz_inT, zz_inF, hm, bc, hc, h35, zl, z2]
      · rw [up_n (by omega), up_s rfl, if_pos c1]; rfl
      · rw [up_s rfl, if_pos c1]
    · refine ⟨I, ?_, ag_rf, ?_, ?_⟩
      · have z2 : c < M := by omega
        simp (disch := omega) only [gX12_tryEscorts, fX12_tryEscorts_g, zz_lt, li_0, li_1, li_2, li_3, li_4, li_5, li_6, li_7, li_8, li_9, li_10, li_11, li_12, li_15, li_16, li_20, li_21, li_24, li_25, li_26, li_32, li_33, li_38, li_40, li_41, li_42, li_43, li_45, li_47, li_48, li_57, li_58, li_59, li_60, li_61, li_62, li_63, li_74, li_75, li_84, li_91, li_93, li_98, li_100, li_103, li_105, li_107, li_109, li_110, li_111, li_112, li_115, li_118, li_119, li_120, li_121, li_124, li_140, li_180, li_206, li_240, li_255, li_420, li_520, li_999, li_1000, li_1771, li_8240, li_9999, li_88200, li_1000000, li_2097151, li_31, nI_add, pk_mul, zz_sub, zz_an, nI_clamp, zz_leT, zz_leF, zz_ltT, zz_ltF, zz_eqF, zz_eqT, zz_m1, zz_m2, zz_m3, zz_m4, zz_m5, zz_m6, zz_ck, zz_bl, zz_b3, zz_b2, zz_shl, zz_bt0, zz_bt1, pk_div, Nat.zero_add, Nat.add_zero, if_true, if_false, reduceIte, Nat.mul_zero, zz_or0, zz_inT, zz_inF, hm, bc, hc, h35, zl, z2]
      · rw [if_neg c1]; exact h35
      · rw [if_neg c1]
  | j + 1, m, d + 1, e, fd => by
    intro I Y row c M f h hL h35 hM hY hf hc hcm
    have gm := hg.1
    have hm := h.1
    have IH := pm_try (W := W) hg hl hs n hn L j (m + 1) d (by omega) (by omega)
    obtain ⟨I1, v1, v2⟩ := pm_ce hg hl n d hn h hL L (m := m) (s := s) (by omega) hs
    have k1 := MS_keep h (ag_910 v2)
    have k2 := ML_keep hl hL (ag_910 v2)
    have k3 : I1 0 35 = I 0 35 := v2 0 35 rfl
    have k4 : I1 0 36 = I 0 36 := v2 0 36 rfl
    cases ce : ecW W g (q 1) s m
    · rw [ce] at v1
      rw [Bm_n ce, Rm_n ce]
      obtain ⟨I2, x1, x2, x3⟩ := IH I1 Y row c M f k1 k2 (by rw [k3]; exact h35) hM hY hf hc (by omega)
      rw [k4] at x3
      refine ⟨I2, ?_, ag_tr (ag_9E v2) x2, x3⟩
      have x1' : gX12_tryEscorts n d 0 (nI (m + 1)) (nI s) (nI Y) (nI row) (nI 0) I1 L = some (0, I2, L) := x1
      simp (disch := omega) only [gX12_tryEscorts, fX12_tryEscorts_g, zz_lt, li_0, li_1, li_2, li_3, li_4, li_5, li_6, li_7, li_8, li_9, li_10, li_11, li_12, li_15, li_16, li_20, li_21, li_24, li_25, li_26, li_32, li_33, li_38, li_40, li_41, li_42, li_43, li_45, li_47, li_48, li_57, li_58, li_59, li_60, li_61, li_62, li_63, li_74, li_75, li_84, li_91, li_93, li_98, li_100, li_103, li_105, li_107, li_109, li_110, li_111, li_112, li_115, li_118, li_119, li_120, li_121, li_124, li_140, li_180, li_206, li_240, li_255, li_420, li_520, li_999, li_1000, li_1771, li_8240, li_9999, li_88200, li_1000000, li_2097151, li_31, nI_add, pk_mul, zz_sub, zz_an, nI_clamp, zz_leT, zz_leF, zz_ltT, zz_ltF, zz_eqF, zz_eqT, zz_m1, zz_m2, zz_m3, zz_m4, zz_m5, zz_m6, zz_ck, zz_bl, zz_b3, zz_b2, zz_shl, zz_bt0, zz_bt1, pk_div, Nat.zero_add, Nat.add_zero, if_true, if_false, reduceIte, Nat.mul_zero, zz_or0, zz_inT, zz_inF, hm, v1, x1', Bool.toNat_false]
    · rw [ce] at v1
      obtain ⟨I2, x1, x2, x3, x4⟩ := pm_tryL hg hl hs n d hn L (by omega) IH (f := f) (Q := I 0 36) (row := row) hM hY hf hc hcm (g 0 0) 0 n I1 (by omega) (by omega) k1 k2 (by rw [k3]; exact h35) (by rw [k4]; rfl)
      have sle := stf_le (v := (fun o => 1 + Bm (ecW W g (q 1) s) (rcW W g (q 1)) (g 0 0) j (m + 1) (rmv f o))) (p := (fun o => f o && rcW W g (q 1) m o)) (ρ := (fun o => nI (Rm (ecW W g (q 1) s) (rcW W g (q 1)) (g 0 0) j (m + 1) (rmv f o) (10 * row + o)))) (c := c) (M := M) (Q := I 0 36) hM (fun o => by
        have := Bm_le (ecW W g (q 1) s) (rcW W g (q 1)) (g 0 0) j (m + 1) (rmv f o)
        show c + (1 + _) ≤ 8
        omega) (g 0 0)
      obtain ⟨I3, y1, y2, y3, y4⟩ := IH I2 Y (10 * row + 9) c (stf (fun o => 1 + Bm (ecW W g (q 1) s) (rcW W g (q 1)) (g 0 0) j (m + 1) (rmv f o)) (fun o => f o && rcW W g (q 1) m o) (fun o => nI (Rm (ecW W g (q 1) s) (rcW W g (q 1)) (g 0 0) j (m + 1) (rmv f o) (10 * row + o))) c M (I 0 36) (g 0 0)).1 f (MS_keep k1 (ag_E x2)) (ML_keep hl k2 (ag_E x2)) x3 sle hY hf hc (by omega)
      have al := stf_all (ec := (ecW W g (q 1) s)) (rc := (rcW W g (q 1))) (μ := g 0 0) (j := j) (m := m) (row := row) (c := c) (M := M) (f := f) (Q := I 0 36) gm ce
      have ek : (if (stf (fun o => 1 + Bm (ecW W g (q 1) s) (rcW W g (q 1)) (g 0 0) j (m + 1) (rmv f o)) (fun o => f o && rcW W g (q 1) m o) (fun o => nI (Rm (ecW W g (q 1) s) (rcW W g (q 1)) (g 0 0) j (m + 1) (rmv f o) (10 * row + o))) c M (I 0 36) (g 0 0)).1 ≤ c + Bm (ecW W g (q 1) s) (rcW W g (q 1)) (g 0 0) j (m + 1) f then (c + Bm (ecW W g (q 1) s) (rcW W g (q 1)) (g 0 0) j (m + 1) f + 1, nI (Rm (ecW W g (q 1) s) (rcW W g (q 1)) (g 0 0) j (m + 1) f (10 * row + 9))) else ((stf (fun o => 1 + Bm (ecW W g (q 1) s) (rcW W g (q 1)) (g 0 0) j (m + 1) (rmv f o)) (fun o => f o && rcW W g (q 1) m o) (fun o => nI (Rm (ecW W g (q 1) s) (rcW W g (q 1)) (g 0 0) j (m + 1) (rmv f o) (10 * row + o))) c M (I 0 36) (g 0 0)).1, I2 0 36)) = (if M ≤ c + Bm (ecW W g (q 1) s) (rcW W g (q 1)) (g 0 0) (j + 1) m f then (c + Bm (ecW W g (q 1) s) (rcW W g (q 1)) (g 0 0) (j + 1) m f + 1, nI (Rm (ecW W g (q 1) s) (rcW W g (q 1)) (g 0 0) (j + 1) m f row)) else (M, I 0 36)) := by
        rw [← al, x4]
      rw [ek] at y3 y4
      refine ⟨I3, ?_, ag_tr (ag_tr (ag_9E v2) x2) y2, y3, y4⟩
      have y1' : gX12_tryEscorts n d 0 (nI (m + 1)) (nI s) (nI Y) (nI (10 * row + 9)) (nI 0) I2 L = some (0, I3, L) := y1
      have x1' : fX12_tryEscorts_b58 n d (gX12_tryEscorts n d) n (nI m) (nI s) (nI Y) (nI row) (nI 0) I1 L = some (I3, L) := by
        rw [x1, y1]; rfl
      simp (disch := omega) only [gX12_tryEscorts, fX12_tryEscorts_g, zz_lt, li_0, li_1, li_2, li_3, li_4, li_5, li_6, li_7, li_8, li_9, li_10, li_11, li_12, li_15, li_16, li_20, li_21, li_24, li_25, li_26, li_32, li_33, li_38, li_40, li_41, li_42, li_43, li_45, li_47, li_48, li_57, li_58, li_59, li_60, li_61, li_62, li_63, li_74, li_75, li_84, li_91, li_93, li_98, li_100, li_103, li_105, li_107, li_109, li_110, li_111, li_112, li_115, li_118, li_119, li_120, li_121, li_124, li_140, li_180, li_206, li_240, li_255, li_420, li_520, li_999, li_1000, li_1771, li_8240, li_9999, li_88200, li_1000000, li_2097151, li_31, nI_add, pk_mul, zz_sub, zz_an, nI_clamp, zz_leT, zz_leF, zz_ltT, zz_ltF, zz_eqF, zz_eqT, zz_m1, zz_m2, zz_m3, zz_m4, zz_m5, zz_m6, zz_ck, zz_bl, zz_b3, zz_b2, zz_shl, zz_bt0, zz_bt1, pk_div, Nat.zero_add, Nat.add_zero, if_true, if_false, reduceIte, Nat.mul_zero, zz_or0, zz_inT, zz_inF, hm, v1, x1', Bool.toNat_true]
