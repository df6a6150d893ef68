/-! PURE: a war's text read, on both sides. -/
theorem DC_cq {I : am_I} {g : Nat → Nat → Nat} {told : Nat} (h : DC I g told) (p : Nat) : DC (cq I p) g told := by
  unfold DC at *
  simp (disch := omega) only [cq_k, cq_j]
  exact h
theorem DC_it {I I' : am_I} {g : Nat → Nat → Nat} {told : Nat} (h : DC I g told) (a : am_ag sIt2 I I') : DC I' g told := by
  unfold DC at *
  rw [funext (fun j => a 14 j rfl), funext (fun j => a 15 j rfl), funext (fun j => a 16 j rfl), funext (fun j => a 17 j rfl), funext (fun j => a 18 j rfl), funext (fun j => a 19 j rfl), funext (fun j => a 20 j rfl), funext (fun j => a 21 j rfl), funext (fun j => a 22 j rfl), funext (fun j => a 23 j rfl), funext (fun j => a 24 j rfl), a 25 5 rfl]
  exact h
theorem TC_ag {I I' : am_I} {n : Nat} {t : Nat → Nat} {S : Nat → Nat → Bool} (h : TC I n t) (a : am_ag S I I') (h1 : S 1 1 = false) (h2 : ∀ j, S 2 j = false) : TC I' n t := by
  unfold TC at *
  rw [a 1 1 h1, funext (fun j => a 2 j (h2 j))]
  exact h
theorem TM_ag {I I' : am_I} {n : Nat} {t : Nat → Nat} {S : Nat → Nat → Bool} (h : TM I n t) (a : am_ag S I I') (h1 : S 0 2 = false) (h2 : ∀ j, S 1 j = false) : TM I' n t := by
  unfold TM at *
  rw [a 0 2 h1, funext (fun j => a 1 j (h2 j))]
  exact h
theorem DM_mp {J : am_I} {g : Nat → Nat → Nat} (h : DM J g) (a : Nat) (w : Int32) : DM (mp J a w) g := by
  unfold DM at *
  rw [mp_0 _ _ _ (by omega), mp_0 _ _ _ (by omega), mp_k _ _ _ (by omega), mp_k _ _ _ (by omega), mp_k _ _ _ (by omega)]
  exact h
theorem ag_cq (I : am_I) (p : Nat) : am_ag scrC I (cq I p) := ag_up ag_rf rfl
theorem ag_mp (J : am_I) (a : Nat) (w : Int32) : am_ag scrM J (mp J a w) := ag_up (ag_up ag_rf rfl) rfl
theorem ag_itC {I I' : am_I} (a : am_ag sIt2 I I') : am_ag scrC I I' := ag_wk a (fun k j h => by
  unfold sIt2
  by_cases c : k = 26
  · subst c; exact absurd h (by simp [scrC])
  · by_cases c2 : k = 25
    · subst c2; exact absurd h (by simp [scrC])
    · simp [c, c2])
theorem ag_drC {I I' : am_I} (a : am_ag sDr I I') : am_ag scrC I I' := ag_wk a (fun k j h => by
  unfold sDr
  by_cases c2 : k = 25
  · subst c2; exact absurd h (by simp [scrC])
  · by_cases c : 14 ≤ k ∧ k ≤ 24
    · exfalso
      rcases (by omega : k = 14 ∨ k = 15 ∨ k = 16 ∨ k = 17 ∨ k = 18 ∨ k = 19 ∨ k = 20 ∨ k = 21 ∨ k = 22 ∨ k = 23 ∨ k = 24) with e | e | e | e | e | e | e | e | e | e | e <;> (subst e; simp [scrC] at h)
    · simp [c, c2])
/-- how the model goes on behind a clause -/
theorem wB_go {n : Nat} {t : Nat → Nat} (hG : GT n t) (f d : Nat) (hf : 300 < f) {J : am_I} (h : TM J n t) (L : am_L) (k48 : Int32 → Int32 → am_I → am_L → Option (Int32 × am_I × am_L)) (a1 : Int32) {p : Nat} (hp : p < n) (h59 : t p = 59) : fX12_readWar_b215 f d k48 a1 (mp J p (-nI 1)) L = k48 a1 (nI 1) (mp J (p + 1) (-nI 1)) L := by
  have g := hG.1
  have h4 := mp_4 J p (-nI 1)
  have h3 := mp_3 J p (-nI 1)
  have lk := pm_look hG f d hf h L (-nI 1) (a := p) (by omega)
  rw [nb_nb (fun _ => by omega), bx_lt hp, h59, en_s] at lk
  simp (disch := omega) only [fX12_readWar_b215, fX12_readWar_b237, fX12_readWar_b252, zz_lt, li_0, li_1, li_2, li_3, li_4, li_5, li_6, li_7, li_8, li_9, li_10, li_11, li_12, li_15, li_16, li_20, li_21, li_24, li_25, li_26, li_32, li_33, li_38, li_40, li_41, li_42, li_43, li_45, li_47, li_48, li_57, li_58, li_59, li_60, li_61, li_62, li_63, li_74, li_75, li_84, li_91, li_93, li_98, li_100, li_103, li_105, li_107, li_109, li_110, li_111, li_112, li_115, li_118, li_119, li_120, li_121, li_124, li_140, li_180, li_206, li_240, li_255, li_420, li_520, li_999, li_1000, li_1771, li_8240, li_9999, li_88200, li_1000000, li_2097151, li_31, nI_add, pk_mul, zz_sub, zz_an, nI_clamp, zz_leT, zz_leF, zz_ltT, zz_ltF, zz_eqF, zz_eqT, zz_m1, zz_m2, zz_m3, zz_m4, zz_m5, zz_m6, zz_ck, zz_bl, zz_b3, zz_b2, zz_shl, zz_bt0, zz_bt1, pk_div, Nat.zero_add, Nat.add_zero, if_true, if_false, reduceIte, Nat.mul_zero, zz_or0, zz_inT, zz_inF, h4, h3, lk, mp_up3]
theorem wB_stop {n : Nat} {t : Nat → Nat} (hG : GT n t) (f d : Nat) (hf : 300 < f) {J : am_I} (h : TM J n t) (L : am_L) (k48 : Int32 → Int32 → am_I → am_L → Option (Int32 × am_I × am_L)) (a1 : Int32) {p : Nat} (hp : p ≤ n) (h59 : p < n → t p ≠ 59 ∧ t p ≠ 32) : fX12_readWar_b215 f d k48 a1 (mp J p (-nI 1)) L = k48 a1 (nI 0) (mp J p (-nI 1)) L := by
  have g := hG.1
  have h4 := mp_4 J p (-nI 1)
  have h3 := mp_3 J p (-nI 1)
  have lk := pm_look hG f d hf h L (-nI 1) (a := p) (by omega)
  rw [nb_nb (fun z => (h59 z).2)] at lk
  by_cases c : p < n
  · have g2 := hG.2 p c
    have h5 := h59 c
    rw [bx_lt c, en_s] at lk
    simp (disch := omega) only [fX12_readWar_b215, fX12_readWar_b236, fX12_readWar_b237, fX12_readWar_b252, zz_lt, li_0, li_1, li_2, li_3, li_4, li_5, li_6, li_7, li_8, li_9, li_10, li_11, li_12, li_15, li_16, li_20, li_21, li_24, li_25, li_26, li_32, li_33, li_38, li_40, li_41, li_42, li_43, li_45, li_47, li_48, li_57, li_58, li_59, li_60, li_61, li_62, li_63, li_74, li_75, li_84, li_91, li_93, li_98, li_100, li_103, li_105, li_107, li_109, li_110, li_111, li_112, li_115, li_118, li_119, li_120, li_121, li_124, li_140, li_180, li_206, li_240, li_255, li_420, li_520, li_999, li_1000, li_1771, li_8240, li_9999, li_88200, li_1000000, li_2097151, li_31, nI_add, pk_mul, zz_sub, zz_an, nI_clamp, zz_leT, zz_leF, zz_ltT, zz_ltF, zz_eqF, zz_eqT, zz_m1, zz_m2, zz_m3, zz_m4, zz_m5, zz_m6, zz_ck, zz_bl, zz_b3, zz_b2, zz_shl, zz_bt0, zz_bt1, pk_div, Nat.zero_add, Nat.add_zero, if_true, if_false, reduceIte, Nat.mul_zero, zz_or0, zz_inT, zz_inF, h4, h3, lk, mp_up3]
  · rw [bx_ge (by omega), en_0] at lk
    simp (disch := omega) only [fX12_readWar_b215, fX12_readWar_b236, fX12_readWar_b237, fX12_readWar_b252, zz_lt, li_0, li_1, li_2, li_3, li_4, li_5, li_6, li_7, li_8, li_9, li_10, li_11, li_12, li_15, li_16, li_20, li_21, li_24, li_25, li_26, li_32, li_33, li_38, li_40, li_41, li_42, li_43, li_45, li_47, li_48, li_57, li_58, li_59, li_60, li_61, li_62, li_63, li_74, li_75, li_84, li_91, li_93, li_98, li_100, li_103, li_105, li_107, li_109, li_110, li_111, li_112, li_115, li_118, li_119, li_120, li_121, li_124, li_140, li_180, li_206, li_240, li_255, li_420, li_520, li_999, li_1000, li_1771, li_8240, li_9999, li_88200, li_1000000, li_2097151, li_31, nI_add, pk_mul, zz_sub, zz_an, nI_clamp, zz_leT, zz_leF, zz_ltT, zz_ltF, zz_eqF, zz_eqT, zz_m1, zz_m2, zz_m3, zz_m4, zz_m5, zz_m6, zz_ck, zz_bl, zz_b3, zz_b2, zz_shl, zz_bt0, zz_bt1, pk_div, Nat.zero_add, Nat.add_zero, if_true, if_false, reduceIte, Nat.mul_zero, zz_or0, zz_inT, zz_inF, h4, h3, lk, mp_up3]
theorem wB_bad (f d : Nat) (J : am_I) (L : am_L) (k48 : Int32 → Int32 → am_I → am_L → Option (Int32 × am_I × am_L)) (a1 : Int32) (a : Nat) {b : Nat} (hb : b < 1000) : fX12_readWar_b215 f d k48 a1 (mp J a (nI b)) L = k48 a1 (nI 0) (mp J a (nI b)) L := by
  have h4 := mp_4 J a (nI b)
  have h3 := mp_3 J a (nI b)
  simp (disch := omega) only [fX12_readWar_b215, fX12_readWar_b236, fX12_readWar_b237, fX12_readWar_b252, zz_lt, li_0, li_1, li_2, li_3, li_4, li_5, li_6, li_7, li_8, li_9, li_10, li_11, li_12, li_15, li_16, li_20, li_21, li_24, li_25, li_26, li_32, li_33, li_38, li_40, li_41, li_42, li_43, li_45, li_47, li_48, li_57, li_58, li_59, li_60, li_61, li_62, li_63, li_74, li_75, li_84, li_91, li_93, li_98, li_100, li_103, li_105, li_107, li_109, li_110, li_111, li_112, li_115, li_118, li_119, li_120, li_121, li_124, li_140, li_180, li_206, li_240, li_255, li_420, li_520, li_999, li_1000, li_1771, li_8240, li_9999, li_88200, li_1000000, li_2097151, li_31, nI_add, pk_mul, zz_sub, zz_an, nI_clamp, zz_leT, zz_leF, zz_ltT, zz_ltF, zz_eqF, zz_eqT, zz_m1, zz_m2, zz_m3, zz_m4, zz_m5, zz_m6, zz_ck, zz_bl, zz_b3, zz_b2, zz_shl, zz_bt0, zz_bt1, pk_div, Nat.zero_add, Nat.add_zero, if_true, if_false, reduceIte, Nat.mul_zero, zz_or0, zz_inT, zz_inF, h4, h3, mp_up3]
/-- its end -/
theorem eW_bad (f d : Nat) (J : am_I) (L : am_L) (a1 : Int32) (a : Nat) {b : Nat} (hb : b < 1000) (G : Nat) : fX12_readWar_b48 f d (G + 1) a1 (nI 0) (mp J a (nI b)) L = some (nI b, mp J a (nI b), L) := by
  have h4 := mp_4 J a (nI b)
  simp (disch := omega) only [fX12_readWar_b48, fX12_readWar_b48w, fX12_readWar_b259, fX12_readWar_b286, zz_lt, li_0, li_1, li_2, li_3, li_4, li_5, li_6, li_7, li_8, li_9, li_10, li_11, li_12, li_15, li_16, li_20, li_21, li_24, li_25, li_26, li_32, li_33, li_38, li_40, li_41, li_42, li_43, li_45, li_47, li_48, li_57, li_58, li_59, li_60, li_61, li_62, li_63, li_74, li_75, li_84, li_91, li_93, li_98, li_100, li_103, li_105, li_107, li_109, li_110, li_111, li_112, li_115, li_118, li_119, li_120, li_121, li_124, li_140, li_180, li_206, li_240, li_255, li_420, li_520, li_999, li_1000, li_1771, li_8240, li_9999, li_88200, li_1000000, li_2097151, li_31, nI_add, pk_mul, zz_sub, zz_an, nI_clamp, zz_leT, zz_leF, zz_ltT, zz_ltF, zz_eqF, zz_eqT, zz_m1, zz_m2, zz_m3, zz_m4, zz_m5, zz_m6, zz_ck, zz_bl, zz_b3, zz_b2, zz_shl, zz_bt0, zz_bt1, pk_div, Nat.zero_add, Nat.add_zero, if_true, if_false, reduceIte, Nat.mul_zero, zz_or0, zz_inT, zz_inF, h4]
theorem eW_unk {n : Nat} {t : Nat → Nat} (hG : GT n t) (f d : Nat) (hf : 300 < f) {J : am_I} (h : TM J n t) (L : am_L) (a1 : Int32) {p : Nat} (hp : p < n) (h32 : t p ≠ 32) (G : Nat) : fX12_readWar_b48 f d (G + 1) a1 (nI 0) (mp J p (-nI 1)) L = some (nI p, mp J p (nI p), L) := by
  have g := hG.1
  have g2 := hG.2 p hp
  have h4 := mp_4 J p (-nI 1)
  have h5 := mp_4 J p (nI p)
  have lk := pm_look hG f d hf h L (-nI 1) (a := p) (by omega)
  rw [nb_nb (fun _ => h32), bx_lt hp, en_s] at lk
  have b0 := pm_bad0 f d J L p
  simp (disch := omega) only [fX12_readWar_b48, fX12_readWar_b48w, fX12_readWar_b259, fX12_readWar_b282, fX12_readWar_b286, zz_lt, li_0, li_1, li_2, li_3, li_4, li_5, li_6, li_7, li_8, li_9, li_10, li_11, li_12, li_15, li_16, li_20, li_21, li_24, li_25, li_26, li_32, li_33, li_38, li_40, li_41, li_42, li_43, li_45, li_47, li_48, li_57, li_58, li_59, li_60, li_61, li_62, li_63, li_74, li_75, li_84, li_91, li_93, li_98, li_100, li_103, li_105, li_107, li_109, li_110, li_111, li_112, li_115, li_118, li_119, li_120, li_121, li_124, li_140, li_180, li_206, li_240, li_255, li_420, li_520, li_999, li_1000, li_1771, li_8240, li_9999, li_88200, li_1000000, li_2097151, li_31, nI_add, pk_mul, zz_sub, zz_an, nI_clamp, zz_leT, zz_leF, zz_ltT, zz_ltF, zz_eqF, zz_eqT, zz_m1, zz_m2, zz_m3, zz_m4, zz_m5, zz_m6, zz_ck, zz_bl, zz_b3, zz_b2, zz_shl, zz_bt0, zz_bt1, pk_div, Nat.zero_add, Nat.add_zero, if_true, if_false, reduceIte, Nat.mul_zero, zz_or0, zz_inT, zz_inF, h4, h5, lk, b0]
theorem eW_end {n : Nat} {t : Nat → Nat} (hG : GT n t) (f d : Nat) (hf : 300 < f) {J : am_I} (h : TM J n t) {g : Nat → Nat → Nat} (hg : GD g) (hd : DM J g) (L : am_L) (a1 : Int32) (G : Nat) : fX12_readWar_b48 f d (G + 1) a1 (nI 0) (mp J n (-nI 1)) L = (if whB g = true then some (-nI 1, mp J n (-nI 1), L) else some (nI n, mp J n (nI n), L)) := by
  have gn := hG.1
  have h4 := mp_4 J n (-nI 1)
  have h5 := mp_4 J n (nI n)
  have lk := pm_look hG f d hf h L (-nI 1) (a := n) (by omega)
  rw [nb_end (Nat.le_refl _), bx_ge (Nat.le_refl _), en_0] at lk
  have b0 := pm_bad0 f d J L n
  have wh := pm_wh hg (DM_mp hd n (-nI 1)) f d (by omega) L
  cases c : whB g
  · rw [c] at wh
    rw [if_neg (by decide)]
    simp (disch := omega) only [fX12_readWar_b48, fX12_readWar_b48w, fX12_readWar_b259, fX12_readWar_b282, fX12_readWar_b286, zz_lt, li_0, li_1, li_2, li_3, li_4, li_5, li_6, li_7, li_8, li_9, li_10, li_11, li_12, li_15, li_16, li_20, li_21, li_24, li_25, li_26, li_32, li_33, li_38, li_40, li_41, li_42, li_43, li_45, li_47, li_48, li_57, li_58, li_59, li_60, li_61, li_62, li_63, li_74, li_75, li_84, li_91, li_93, li_98, li_100, li_103, li_105, li_107, li_109, li_110, li_111, li_112, li_115, li_118, li_119, li_120, li_121, li_124, li_140, li_180, li_206, li_240, li_255, li_420, li_520, li_999, li_1000, li_1771, li_8240, li_9999, li_88200, li_1000000, li_2097151, li_31, nI_add, pk_mul, zz_sub, zz_an, nI_clamp, zz_leT, zz_leF, zz_ltT, zz_ltF, zz_eqF, zz_eqT, zz_m1, zz_m2, zz_m3, zz_m4, zz_m5, zz_m6, zz_ck, zz_bl, zz_b3, zz_b2, zz_shl, zz_bt0, zz_bt1, pk_div, Nat.zero_add, Nat.add_zero, if_true, if_false, reduceIte, Nat.mul_zero, zz_or0, zz_inT, zz_inF, h4, h5, lk, wh, b0, Bool.toNat_false]
  · rw [c] at wh
    rw [if_pos rfl]
    simp (disch := omega) only [fX12_readWar_b48, fX12_readWar_b48w, fX12_readWar_b259, fX12_readWar_b282, fX12_readWar_b286, zz_lt, li_0, li_1, li_2, li_3, li_4, li_5, li_6, li_7, li_8, li_9, li_10, li_11, li_12, li_15, li_16, li_20, li_21, li_24, li_25, li_26, li_32, li_33, li_38, li_40, li_41, li_42, li_43, li_45, li_47, li_48, li_57, li_58, li_59, li_60, li_61, li_62, li_63, li_74, li_75, li_84, li_91, li_93, li_98, li_100, li_103, li_105, li_107, li_109, li_110, li_111, li_112, li_115, li_118, li_119, li_120, li_121, li_124, li_140, li_180, li_206, li_240, li_255, li_420, li_520, li_999, li_1000, li_1771, li_8240, li_9999, li_88200, li_1000000, li_2097151, li_31, nI_add, pk_mul, zz_sub, zz_an, nI_clamp, zz_leT, zz_leF, zz_ltT, zz_ltF, zz_eqF, zz_eqT, zz_m1, zz_m2, zz_m3, zz_m4, zz_m5, zz_m6, zz_ck, zz_bl, zz_b3, zz_b2, zz_shl, zz_bt0, zz_bt1, pk_div, Nat.zero_add, Nat.add_zero, if_true, if_false, reduceIte, Nat.mul_zero, zz_or0, zz_inT, zz_inF, h4, lk, wh, Bool.toNat_true]
/-- what a clause leads to: both fail at a place; or both go on -/
def clO (A B : Option (Int32 × am_I × am_L)) (n : Nat) (t : Nat → Nat) (f d : Nat) (LC LM : am_L) (G : Nat) (I J : am_I) (p : Nat) : Prop := ∃ (I' J' : am_I), am_ag scrC I I' ∧ am_ag scrM J J' ∧ ((∃ p', A = some (nI 0, cq I' p', LC) ∧ p' ≤ 300 ∧ B = some (nI p', J', LM)) ∨ (∃ (p' : Nat) (g : Nat → Nat → Nat) (told : Nat), A = some (nI 1, cq I' p', LC) ∧ p' ≤ n ∧ p < p' ∧ TC I' n t ∧ TM J' n t ∧ GD g ∧ DC I' g told ∧ DM J' g ∧ told ≤ 1 ∧ ((p' < n ∧ t p' = 59 ∧ B = fX12_readWar_b48 f d G (nI told) (nI 1) (mp J' (p' + 1) (-nI 1)) LM) ∨ (p' = n ∧ B = fX12_readWar_b48 f d G (nI told) (nI 0) (mp J' n (-nI 1)) LM))))
/-- a sign that begins no clause here -/
theorem cl_no {n : Nat} {t : Nat → Nat} (hG : GT n t) (f d : Nat) (hf : 1000 < f) {I J : am_I} (hI : TC I n t) (hJ : TM J n t) {g : Nat → Nat → Nat} {told : Nat} (hg : GD g) (hC : DC I g told) (hM : DM J g) (ht : told ≤ 1) (LC LM : am_L) {p a : Nat} (ha : a ≤ n) (hp : nb n t a = p) (hno : ¬ (bx n t p = 110 ∧ g 0 0 < 8) ∧ ¬ (bx n t p = 112 ∧ g 0 1 < 6) ∧ ¬ (bx n t p = 120 ∧ told = 0)) (G : Nat) : clO (fX10_readClause f d (cq I p) LC) (fX12_readWar_b48 f d (G + 1 + 1) (nI told) (nI 1) (mp J a (-nI 1)) LM) n t f d LC LM (G + 1) I J p := by
  have gn := hG.1
  have q1 := hg.1
  have q2 := hg.2.1
  have hpn : p ≤ n := by rw [← hp]; exact nb_le ha
  have h4 := cq_4 I p
  have at' := pc_at hG f d (TC_cq hI p) LC (i := p) (by omega)
  have lk := pm_look hG f d (by omega) hJ LM (-nI 1) (a := a) (by omega)
  rw [hp] at lk
  have bl := bx_le hG p
  have m4 := mp_4 J a (-nI 1)
  have k0 := (DC_cq hC p).1
  have k1 := (DC_cq hC p).2.1
  have k5 := (DC_cq hC p).2.2.2.2.2.1
  have j0 := (DM_mp hM p (-nI 1)).1
  have j1 := (DM_mp hM p (-nI 1)).2.1
  have b0 := pm_bad0 f d J LM p
  have wb := fun a1 => wB_bad f d J LM (fX12_readWar_b48 f d (G + 1)) a1 p (b := p) (by omega)
  have eb := eW_bad f d J LM (nI told) p (b := p) (by omega) G
  have st : fX12_readWar_b48 f d (G + 1 + 1) (nI told) (nI 1) (mp J a (-nI 1)) LM = some (nI p, mp J p (nI p), LM) := by
    rw [← eb, ← wb]
    rw [show fX12_readWar_b48 f d (G + 1 + 1) = fX12_readWar_b48w f d (fX12_readWar_b48 f d (G + 1)) from rfl]
    generalize fX12_readWar_b48 f d (G + 1) = KK
    rcases hb : bx n t p with _ | b
    · rw [hb, en_0] at lk
      simp (disch := omega) only [fX12_readWar_b48w, fX12_readWar_b121, fX12_readWar_b175, fX12_readWar_b211, zz_lt, li_0, li_1, li_2, li_3, li_4, li_5, li_6, li_7, li_8, li_9, li_10, li_11, li_12, li_15, li_16, li_20, li_21, li_24, li_25, li_26, li_32, li_33, li_38, li_40, li_41, li_42, li_43, li_45, li_47, li_48, li_57, li_58, li_59, li_60, li_61, li_62, li_63, li_74, li_75, li_84, li_91, li_93, li_98, li_100, li_103, li_105, li_107, li_109, li_110, li_111, li_112, li_115, li_118, li_119, li_120, li_121, li_124, li_140, li_180, li_206, li_240, li_255, li_420, li_520, li_999, li_1000, li_1771, li_8240, li_9999, li_88200, li_1000000, li_2097151, li_31, nI_add, pk_mul, zz_sub, zz_an, nI_clamp, zz_leT, zz_leF, zz_ltT, zz_ltF, zz_eqF, zz_eqT, zz_m1, zz_m2, zz_m3, zz_m4, zz_m5, zz_m6, zz_ck, zz_bl, zz_b3, zz_b2, zz_shl, zz_bt0, zz_bt1, pk_div, Nat.zero_add, Nat.add_zero, if_true, if_false, reduceIte, Nat.mul_zero, zz_or0, zz_inT, zz_inF, m4, lk, b0]
    · rw [hb, en_s] at lk
      rw [hb] at hno bl
      by_cases c1 : b = 109
      · subst c1
        simp (disch := omega) only [fX12_readWar_b48w, fX12_readWar_b121, fX12_readWar_b175, fX12_readWar_b211, zz_lt, li_0, li_1, li_2, li_3, li_4, li_5, li_6, li_7, li_8, li_9, li_10, li_11, li_12, li_15, li_16, li_20, li_21, li_24, li_25, li_26, li_32, li_33, li_38, li_40, li_41, li_42, li_43, li_45, li_47, li_48, li_57, li_58, li_59, li_60, li_61, li_62, li_63, li_74, li_75, li_84, li_91, li_93, li_98, li_100, li_103, li_105, li_107, li_109, li_110, li_111, li_112, li_115, li_118, li_119, li_120, li_121, li_124, li_140, li_180, li_206, li_240, li_255, li_420, li_520, li_999, li_1000, li_1771, li_8240, li_9999, li_88200, li_1000000, li_2097151, li_31, nI_add, pk_mul, zz_sub, zz_an, nI_clamp, zz_leT, zz_leF, zz_ltT, zz_ltF, zz_eqF, zz_eqT, zz_m1, zz_m2, zz_m3, zz_m4, zz_m5, zz_m6, zz_ck, zz_bl, zz_b3, zz_b2, zz_shl, zz_bt0, zz_bt1, pk_div, Nat.zero_add, Nat.add_zero, if_true, if_false, reduceIte, Nat.mul_zero, zz_or0, zz_inT, zz_inF, m4, lk, b0, j0]
      · by_cases c2 : b = 111
        · subst c2
          simp (disch := omega) only [fX12_readWar_b48w, fX12_readWar_b121, fX12_readWar_b175, fX12_readWar_b211, zz_lt, li_0, li_1, li_2, li_3, li_4, li_5, li_6, li_7, li_8, li_9, li_10, li_11, li_12, li_15, li_16, li_20, li_21, li_24, li_25, li_26, li_32, li_33, li_38, li_40, li_41, li_42, li_43, li_45, li_47, li_48, li_57, li_58, li_59, li_60, li_61, li_62, li_63, li_74, li_75, li_84, li_91, li_93, li_98, li_100, li_103, li_105, li_107, li_109, li_110, li_111, li_112, li_115, li_118, li_119, li_120, li_121, li_124, li_140, li_180, li_206, li_240, li_255, li_420, li_520, li_999, li_1000, li_1771, li_8240, li_9999, li_88200, li_1000000, li_2097151, li_31, nI_add, pk_mul, zz_sub, zz_an, nI_clamp, zz_leT, zz_leF, zz_ltT, zz_ltF, zz_eqF, zz_eqT, zz_m1, zz_m2, zz_m3, zz_m4, zz_m5, zz_m6, zz_ck, zz_bl, zz_b3, zz_b2, zz_shl, zz_bt0, zz_bt1, pk_div, Nat.zero_add, Nat.add_zero, if_true, if_false, reduceIte, Nat.mul_zero, zz_or0, zz_inT, zz_inF, m4, lk, b0, j1]
        · by_cases c3 : b = 119
          · subst c3
            simp (disch := omega) only [fX12_readWar_b48w, fX12_readWar_b121, fX12_readWar_b175, fX12_readWar_b211, zz_lt, li_0, li_1, li_2, li_3, li_4, li_5, li_6, li_7, li_8, li_9, li_10, li_11, li_12, li_15, li_16, li_20, li_21, li_24, li_25, li_26, li_32, li_33, li_38, li_40, li_41, li_42, li_43, li_45, li_47, li_48, li_57, li_58, li_59, li_60, li_61, li_62, li_63, li_74, li_75, li_84, li_91, li_93, li_98, li_100, li_103, li_105, li_107, li_109, li_110, li_111, li_112, li_115, li_118, li_119, li_120, li_121, li_124, li_140, li_180, li_206, li_240, li_255, li_420, li_520, li_999, li_1000, li_1771, li_8240, li_9999, li_88200, li_1000000, li_2097151, li_31, nI_add, pk_mul, zz_sub, zz_an, nI_clamp, zz_leT, zz_leF, zz_ltT, zz_ltF, zz_eqF, zz_eqT, zz_m1, zz_m2, zz_m3, zz_m4, zz_m5, zz_m6, zz_ck, zz_bl, zz_b3, zz_b2, zz_shl, zz_bt0, zz_bt1, pk_div, Nat.zero_add, Nat.add_zero, if_true, if_false, reduceIte, Nat.mul_zero, zz_or0, zz_inT, zz_inF, m4, lk, b0]
          · simp (disch := omega) only [fX12_readWar_b48w, fX12_readWar_b121, fX12_readWar_b175, fX12_readWar_b211, zz_lt, li_0, li_1, li_2, li_3, li_4, li_5, li_6, li_7, li_8, li_9, li_10, li_11, li_12, li_15, li_16, li_20, li_21, li_24, li_25, li_26, li_32, li_33, li_38, li_40, li_41, li_42, li_43, li_45, li_47, li_48, li_57, li_58, li_59, li_60, li_61, li_62, li_63, li_74, li_75, li_84, li_91, li_93, li_98, li_100, li_103, li_105, li_107, li_109, li_110, li_111, li_112, li_115, li_118, li_119, li_120, li_121, li_124, li_140, li_180, li_206, li_240, li_255, li_420, li_520, li_999, li_1000, li_1771, li_8240, li_9999, li_88200, li_1000000, li_2097151, li_31, nI_add, pk_mul, zz_sub, zz_an, nI_clamp, zz_leT, zz_leF, zz_ltT, zz_ltF, zz_eqF, zz_eqT, zz_m1, zz_m2, zz_m3, zz_m4, zz_m5, zz_m6, zz_ck, zz_bl, zz_b3, zz_b2, zz_shl, zz_bt0, zz_bt1, pk_div, Nat.zero_add, Nat.add_zero, if_true, if_false, reduceIte, Nat.mul_zero, zz_or0, zz_inT, zz_inF, m4, lk, b0]
  refine ⟨I, mp J p (nI p), ag_rf, ag_mp _ _ _, Or.inl ⟨p, ?_, by omega, st⟩⟩
  rcases hb : bx n t p with _ | b
  · rw [hb, en_0] at at'
    simp (disch := omega) only [fX10_readClause, fX10_firstItemOf, zz_lt, li_0, li_1, li_2, li_3, li_4, li_5, li_6, li_7, li_8, li_9, li_10, li_11, li_12, li_15, li_16, li_20, li_21, li_24, li_25, li_26, li_32, li_33, li_38, li_40, li_41, li_42, li_43, li_45, li_47, li_48, li_57, li_58, li_59, li_60, li_61, li_62, li_63, li_74, li_75, li_84, li_91, li_93, li_98, li_100, li_103, li_105, li_107, li_109, li_110, li_111, li_112, li_115, li_118, li_119, li_120, li_121, li_124, li_140, li_180, li_206, li_240, li_255, li_420, li_520, li_999, li_1000, li_1771, li_8240, li_9999, li_88200, li_1000000, li_2097151, li_31, nI_add, pk_mul, zz_sub, zz_an, nI_clamp, zz_leT, zz_leF, zz_ltT, zz_ltF, zz_eqF, zz_eqT, zz_m1, zz_m2, zz_m3, zz_m4, zz_m5, zz_m6, zz_ck, zz_bl, zz_b3, zz_b2, zz_shl, zz_bt0, zz_bt1, pk_div, Nat.zero_add, Nat.add_zero, if_true, if_false, reduceIte, Nat.mul_zero, zz_or0, zz_inT, zz_inF, h4, at']
  · rw [hb, en_s] at at'
    rw [hb] at hno bl
    by_cases c1 : b = 109
    · subst c1
      simp (disch := omega) only [fX10_readClause, fX10_firstItemOf, fX10_isOneTooMany, zz_lt, li_0, li_1, li_2, li_3, li_4, li_5, li_6, li_7, li_8, li_9, li_10, li_11, li_12, li_15, li_16, li_20, li_21, li_24, li_25, li_26, li_32, li_33, li_38, li_40, li_41, li_42, li_43, li_45, li_47, li_48, li_57, li_58, li_59, li_60, li_61, li_62, li_63, li_74, li_75, li_84, li_91, li_93, li_98, li_100, li_103, li_105, li_107, li_109, li_110, li_111, li_112, li_115, li_118, li_119, li_120, li_121, li_124, li_140, li_180, li_206, li_240, li_255, li_420, li_520, li_999, li_1000, li_1771, li_8240, li_9999, li_88200, li_1000000, li_2097151, li_31, nI_add, pk_mul, zz_sub, zz_an, nI_clamp, zz_leT, zz_leF, zz_ltT, zz_ltF, zz_eqF, zz_eqT, zz_m1, zz_m2, zz_m3, zz_m4, zz_m5, zz_m6, zz_ck, zz_bl, zz_b3, zz_b2, zz_shl, zz_bt0, zz_bt1, pk_div, Nat.zero_add, Nat.add_zero, if_true, if_false, reduceIte, Nat.mul_zero, zz_or0, zz_inT, zz_inF, h4, at', k0]
    · by_cases c2 : b = 111
      · subst c2
        simp (disch := omega) only [fX10_readClause, fX10_firstItemOf, fX10_isOneTooMany, zz_lt, li_0, li_1, li_2, li_3, li_4, li_5, li_6, li_7, li_8, li_9, li_10, li_11, li_12, li_15, li_16, li_20, li_21, li_24, li_25, li_26, li_32, li_33, li_38, li_40, li_41, li_42, li_43, li_45, li_47, li_48, li_57, li_58, li_59, li_60, li_61, li_62, li_63, li_74, li_75, li_84, li_91, li_93, li_98, li_100, li_103, li_105, li_107, li_109, li_110, li_111, li_112, li_115, li_118, li_119, li_120, li_121, li_124, li_140, li_180, li_206, li_240, li_255, li_420, li_520, li_999, li_1000, li_1771, li_8240, li_9999, li_88200, li_1000000, li_2097151, li_31, nI_add, pk_mul, zz_sub, zz_an, nI_clamp, zz_leT, zz_leF, zz_ltT, zz_ltF, zz_eqF, zz_eqT, zz_m1, zz_m2, zz_m3, zz_m4, zz_m5, zz_m6, zz_ck, zz_bl, zz_b3, zz_b2, zz_shl, zz_bt0, zz_bt1, pk_div, Nat.zero_add, Nat.add_zero, if_true, if_false, reduceIte, Nat.mul_zero, zz_or0, zz_inT, zz_inF, h4, at', k1]
      · by_cases c3 : b = 119
        · subst c3
          simp (disch := omega) only [fX10_readClause, fX10_firstItemOf, fX10_isOneTooMany, zz_lt, li_0, li_1, li_2, li_3, li_4, li_5, li_6, li_7, li_8, li_9, li_10, li_11, li_12, li_15, li_16, li_20, li_21, li_24, li_25, li_26, li_32, li_33, li_38, li_40, li_41, li_42, li_43, li_45, li_47, li_48, li_57, li_58, li_59, li_60, li_61, li_62, li_63, li_74, li_75, li_84, li_91, li_93, li_98, li_100, li_103, li_105, li_107, li_109, li_110, li_111, li_112, li_115, li_118, li_119, li_120, li_121, li_124, li_140, li_180, li_206, li_240, li_255, li_420, li_520, li_999, li_1000, li_1771, li_8240, li_9999, li_88200, li_1000000, li_2097151, li_31, nI_add, pk_mul, zz_sub, zz_an, nI_clamp, zz_leT, zz_leF, zz_ltT, zz_ltF, zz_eqF, zz_eqT, zz_m1, zz_m2, zz_m3, zz_m4, zz_m5, zz_m6, zz_ck, zz_bl, zz_b3, zz_b2, zz_shl, zz_bt0, zz_bt1, pk_div, Nat.zero_add, Nat.add_zero, if_true, if_false, reduceIte, Nat.mul_zero, zz_or0, zz_inT, zz_inF, h4, at', k5]
        · simp (disch := omega) only [fX10_readClause, fX10_firstItemOf, zz_lt, li_0, li_1, li_2, li_3, li_4, li_5, li_6, li_7, li_8, li_9, li_10, li_11, li_12, li_15, li_16, li_20, li_21, li_24, li_25, li_26, li_32, li_33, li_38, li_40, li_41, li_42, li_43, li_45, li_47, li_48, li_57, li_58, li_59, li_60, li_61, li_62, li_63, li_74, li_75, li_84, li_91, li_93, li_98, li_100, li_103, li_105, li_107, li_109, li_110, li_111, li_112, li_115, li_118, li_119, li_120, li_121, li_124, li_140, li_180, li_206, li_240, li_255, li_420, li_520, li_999, li_1000, li_1771, li_8240, li_9999, li_88200, li_1000000, li_2097151, li_31, nI_add, pk_mul, zz_sub, zz_an, nI_clamp, zz_leT, zz_leF, zz_ltT, zz_ltF, zz_eqF, zz_eqT, zz_m1, zz_m2, zz_m3, zz_m4, zz_m5, zz_m6, zz_ck, zz_bl, zz_b3, zz_b2, zz_shl, zz_bt0, zz_bt1, pk_div, Nat.zero_add, Nat.add_zero, if_true, if_false, reduceIte, Nat.mul_zero, zz_or0, zz_inT, zz_inF, h4, at']
theorem DM_M {J J1 : am_I} {g : Nat → Nat → Nat} {v : Nat → Nat} (hg : GD g) (hM : DM J g) (a : am_ag (sJM (6 * g 0 0)) J J1) (hv : ∀ k, k < 6 → J1 11 (6 * g 0 0 + k) = nI (v k)) (hc : g 0 0 < 8) : DM (am_up J1 0 20 (nI (g 0 0 + 1))) (adM g v) := by
  obtain ⟨j0, j1, j2, j3, j4, j5⟩ := hM
  have o20 : J1 0 20 = J 0 20 := a 0 20 rfl
  have o21 : J1 0 21 = J 0 21 := a 0 21 rfl
  refine ⟨by rw [up_s rfl, adM_0], by rw [up_n (by omega), o21, adM_q g v (by omega)]; exact j1, ?_, ?_, fun m hm k hk => ?_, fun m hm k hk => ?_⟩
  · rw [am_up_ne (by omega), a 13 0 rfl, adM_q g v (by omega)]; exact j2
  · rw [am_up_ne (by omega), a 13 1 rfl, adM_q g v (by omega)]; exact j3
  · rw [adM_0] at hm
    rw [am_up_ne (by omega)]
    by_cases c : m = g 0 0
    · rw [adM_n g v (by omega) c, c, Nat.add_sub_cancel]; exact hv k hk
    · rw [adM_o g v (by omega) (Or.inl c), a 11 _ (by simp [sJM]; omega)]; exact j4 m (by omega) k hk
  · rw [adM_q g v (by omega)] at hm
    rw [am_up_ne (by omega), a 12 _ rfl, adM_o g v (by omega) (Or.inr (by omega))]
    exact j5 m hm k hk
theorem ag_sJM {J J1 : am_I} {o : Nat} (a : am_ag (sJM o) J J1) : am_ag scrM J J1 := ag_wk a (fun k j h => by
  unfold sJM
  by_cases c : k = 11
  · subst c; exact absurd h (by simp [scrM])
  · simp [c])
theorem cl_M {n : Nat} {t : Nat → Nat} (hG : GT n t) (f d : Nat) (hf : 1000 < f) {I J : am_I} (hI : TC I n t) (hJ : TM J n t) {g : Nat → Nat → Nat} {told : Nat} (hg : GD g) (hC : DC I g told) (hM : DM J g) (ht : told ≤ 1) (LC LM : am_L) {p a : Nat} (ha : a ≤ n) (hp : nb n t a = p) (hx : bx n t p = 110) (hc : g 0 0 < 8) (G : Nat) : clO (fX10_readClause f d (cq I p) LC) (fX12_readWar_b48 f d (G + 1 + 1) (nI told) (nI 1) (mp J a (-nI 1)) LM) n t f d LC LM (G + 1) I J p := by
  have gn := hG.1
  have q1 := hg.1
  have q2 := hg.2.1
  have hpn : p < n := bx_in (n := n) (t := t) (by rw [hx]; omega)
  have h4 := cq_4 I p
  have at' := pc_at hG f d (TC_cq hI p) LC (i := p) (by omega)
  have lk := pm_look hG f d (by omega) hJ LM (-nI 1) (a := a) (by omega)
  rw [hp, hx, en_s] at lk
  rw [hx, en_s] at at'
  have m4 := mp_4 J a (-nI 1)
  have m3 := mp_3 J p (-nI 1)
  have k0 := (DC_cq hC p).1
  have k1 := (DC_cq hC p).2.1
  have k5 := (DC_cq hC p).2.2.2.2.2.1
  have j0 := (DM_mp hM p (-nI 1)).1
  have j1 := (DM_mp hM p (-nI 1)).2.1
  have j0' := (DM_mp hM (p + 1) (-nI 1)).1
  have j1' := (DM_mp hM (p + 1) (-nI 1)).2.1
  have go := pc_go hG f d (by omega) hI LC (p := p) (by omega)
  obtain ⟨r, I1, J1, a1, w1, p1, v, x1, x2, x3, x4, x5⟩ := ic_bothM hG f d hf LC LM (o := 6 * g 0 0) (a := p + 1) (by omega) (by omega) hI hJ
  simp only [Nat.zero_add, Nat.reduceAdd] at x1
  have tC1 : TC I1 n t := TC_ag hI x3 rfl (fun _ => rfl)
  have tM1 : TM J1 n t := TM_ag hJ x4 rfl (fun _ => rfl)
  have tM2 : TM (am_up J1 0 20 (nI (g 0 0 + 1))) n t := TM_up tM1 (by omega)
  have mu := mp_upk J1 a1 w1 (k := 0) (j := 20) (nI (g 0 0 + 1)) (by omega)
  have jj : mp J1 a1 w1 0 20 = nI (g 0 0) := by rw [mp_0 _ _ _ (by omega), x4 0 20 rfl]; exact hM.1
  have stM : fX12_readWar_b48 f d (G + 1 + 1) (nI told) (nI 1) (mp J a (-nI 1)) LM = fX12_readWar_b215 f d (fX12_readWar_b48 f d (G + 1)) (nI told) (mp (am_up J1 0 20 (nI (g 0 0 + 1))) a1 w1) LM := by
    rw [show fX12_readWar_b48 f d (G + 1 + 1) = fX12_readWar_b48w f d (fX12_readWar_b48 f d (G + 1)) from rfl]
    generalize fX12_readWar_b48 f d (G + 1) = KK
    simp (disch := omega) only [fX12_readWar_b48w, zz_lt, li_0, li_1, li_2, li_3, li_4, li_5, li_6, li_7, li_8, li_9, li_10, li_11, li_12, li_15, li_16, li_20, li_21, li_24, li_25, li_26, li_32, li_33, li_38, li_40, li_41, li_42, li_43, li_45, li_47, li_48, li_57, li_58, li_59, li_60, li_61, li_62, li_63, li_74, li_75, li_84, li_91, li_93, li_98, li_100, li_103, li_105, li_107, li_109, li_110, li_111, li_112, li_115, li_118, li_119, li_120, li_121, li_124, li_140, li_180, li_206, li_240, li_255, li_420, li_520, li_999, li_1000, li_1771, li_8240, li_9999, li_88200, li_1000000, li_2097151, li_31, nI_add, pk_mul, zz_sub, zz_an, nI_clamp, zz_leT, zz_leF, zz_ltT, zz_ltF, zz_eqF, zz_eqT, zz_m1, zz_m2, zz_m3, zz_m4, zz_m5, zz_m6, zz_ck, zz_bl, zz_b3, zz_b2, zz_shl, zz_bt0, zz_bt1, pk_div, Nat.zero_add, Nat.add_zero, if_true, if_false, reduceIte, Nat.mul_zero, zz_or0, zz_inT, zz_inF, m4, lk, m3, mp_up3, j0, j0', x2, jj, mu]
  have agM : am_ag scrM J (am_up J1 0 20 (nI (g 0 0 + 1))) := ag_up (ag_sJM x4) rfl
  rcases x5 with ⟨r1, r2, r3, r4, r5, r6, r7⟩ | ⟨r1, r2, r3, r4⟩
  · subst r1; subst r2; subst r3
    obtain ⟨I2, y1, y2, y3, y4⟩ := pc_adM (v := v) hg (DC_cq (DC_it hC x3) a1) f d LC hc (fun k hk => ⟨by rw [cq_k _ _ (by omega)]; exact (r7 k hk).1, (r7 k hk).2.2⟩)
    have kp : fX10_keepClause f d (nI 109) (cq I1 a1) LC = some (I2, LC) := by simp (disch := omega) only [fX10_keepClause, zz_lt, li_0, li_1, li_2, li_3, li_4, li_5, li_6, li_7, li_8, li_9, li_10, li_11, li_12, li_15, li_16, li_20, li_21, li_24, li_25, li_26, li_32, li_33, li_38, li_40, li_41, li_42, li_43, li_45, li_47, li_48, li_57, li_58, li_59, li_60, li_61, li_62, li_63, li_74, li_75, li_84, li_91, li_93, li_98, li_100, li_103, li_105, li_107, li_109, li_110, li_111, li_112, li_115, li_118, li_119, li_120, li_121, li_124, li_140, li_180, li_206, li_240, li_255, li_420, li_520, li_999, li_1000, li_1771, li_8240, li_9999, li_88200, li_1000000, li_2097151, li_31, nI_add, pk_mul, zz_sub, zz_an, nI_clamp, zz_leT, zz_leF, zz_ltT, zz_ltF, zz_eqF, zz_eqT, zz_m1, zz_m2, zz_m3, zz_m4, zz_m5, zz_m6, zz_ck, zz_bl, zz_b3, zz_b2, zz_shl, zz_bt0, zz_bt1, pk_div, Nat.zero_add, Nat.add_zero, if_true, if_false, reduceIte, Nat.mul_zero, zz_or0, zz_inT, zz_inF, y1]
    have c25 : I2 25 4 = nI a1 := by rw [y4 25 4 rfl, cq_4]
    have tC2 : TC I2 n t := TC_ag (TC_cq tC1 a1) y4 rfl (fun _ => rfl)
    refine ⟨I2, am_up J1 0 20 (nI (g 0 0 + 1)), ag_tr (ag_tr (ag_itC x3) (ag_cq I1 a1)) (ag_drC y4), agM, Or.inr ⟨a1, adM g v, told, ?_, r4, by omega, tC2, tM2, y3, y2, DM_M hg hM x4 (fun k hk => (r7 k hk).2.1) hc, ht, ?_⟩⟩
    · rw [cq_self c25]
      simp (disch := omega) only [fX10_readClause, fX10_firstItemOf, fX10_isOneTooMany, fX10_endOfItems, zz_lt, li_0, li_1, li_2, li_3, li_4, li_5, li_6, li_7, li_8, li_9, li_10, li_11, li_12, li_15, li_16, li_20, li_21, li_24, li_25, li_26, li_32, li_33, li_38, li_40, li_41, li_42, li_43, li_45, li_47, li_48, li_57, li_58, li_59, li_60, li_61, li_62, li_63, li_74, li_75, li_84, li_91, li_93, li_98, li_100, li_103, li_105, li_107, li_109, li_110, li_111, li_112, li_115, li_118, li_119, li_120, li_121, li_124, li_140, li_180, li_206, li_240, li_255, li_420, li_520, li_999, li_1000, li_1771, li_8240, li_9999, li_88200, li_1000000, li_2097151, li_31, nI_add, pk_mul, zz_sub, zz_an, nI_clamp, zz_leT, zz_leF, zz_ltT, zz_ltF, zz_eqF, zz_eqT, zz_m1, zz_m2, zz_m3, zz_m4, zz_m5, zz_m6, zz_ck, zz_bl, zz_b3, zz_b2, zz_shl, zz_bt0, zz_bt1, pk_div, Nat.zero_add, Nat.add_zero, if_true, if_false, reduceIte, Nat.mul_zero, zz_or0, zz_inT, zz_inF, h4, at', k0, go, x1, kp]
    · rw [stM]
      by_cases c : a1 < n
      · exact Or.inl ⟨c, r5 c, wB_go hG f d (by omega) tM2 LM _ _ c (r5 c)⟩
      · have e : a1 = n := by omega
        subst e
        exact Or.inr ⟨rfl, wB_stop hG f d (by omega) tM2 LM _ _ (Nat.le_refl _) (fun z => by omega)⟩
  · subst r1
    refine ⟨I1, mp (am_up J1 0 20 (nI (g 0 0 + 1))) a1 (nI p1), ag_itC x3, ag_tr agM (ag_mp _ _ _), Or.inl ⟨p1, ?_, r3, ?_⟩⟩
    · simp (disch := omega) only [fX10_readClause, fX10_firstItemOf, fX10_isOneTooMany, fX10_endOfItems, zz_lt, li_0, li_1, li_2, li_3, li_4, li_5, li_6, li_7, li_8, li_9, li_10, li_11, li_12, li_15, li_16, li_20, li_21, li_24, li_25, li_26, li_32, li_33, li_38, li_40, li_41, li_42, li_43, li_45, li_47, li_48, li_57, li_58, li_59, li_60, li_61, li_62, li_63, li_74, li_75, li_84, li_91, li_93, li_98, li_100, li_103, li_105, li_107, li_109, li_110, li_111, li_112, li_115, li_118, li_119, li_120, li_121, li_124, li_140, li_180, li_206, li_240, li_255, li_420, li_520, li_999, li_1000, li_1771, li_8240, li_9999, li_88200, li_1000000, li_2097151, li_31, nI_add, pk_mul, zz_sub, zz_an, nI_clamp, zz_leT, zz_leF, zz_ltT, zz_ltF, zz_eqF, zz_eqT, zz_m1, zz_m2, zz_m3, zz_m4, zz_m5, zz_m6, zz_ck, zz_bl, zz_b3, zz_b2, zz_shl, zz_bt0, zz_bt1, pk_div, Nat.zero_add, Nat.add_zero, if_true, if_false, reduceIte, Nat.mul_zero, zz_or0, zz_inT, zz_inF, h4, at', k0, go, x1]
    · rw [stM]
      rcases r4 with e | ⟨e1, e2, e3, e4, e5⟩
      · subst e
        rw [wB_bad f d _ LM _ _ a1 (by omega), eW_bad f d _ LM _ a1 (by omega) G]
      · subst e1; subst e2
        rw [wB_stop hG f d (by omega) tM2 LM _ _ (by omega) (fun _ => ⟨e4, e5⟩), eW_unk hG f d (by omega) tM2 LM _ e3 e5 G]
theorem DM_O {J J1 : am_I} {g : Nat → Nat → Nat} {v : Nat → Nat} (hg : GD g) (hM : DM J g) (a : am_ag (sJO (2 * g 0 1)) J J1) (hv : ∀ k, k < 2 → J1 12 (2 * g 0 1 + k) = nI (v k)) (hc : g 0 1 < 6) : DM (am_up J1 0 21 (nI (g 0 1 + 1))) (adO g v) := by
  obtain ⟨j0, j1, j2, j3, j4, j5⟩ := hM
  have o20 : J1 0 20 = J 0 20 := a 0 20 rfl
  have o21 : J1 0 21 = J 0 21 := a 0 21 rfl
  refine ⟨by rw [up_n (by omega), o20, adO_q g v (by omega)]; exact j0, by rw [up_s rfl, adO_1], ?_, ?_, fun m hm k hk => ?_, fun m hm k hk => ?_⟩
  · rw [am_up_ne (by omega), a 13 0 rfl, adO_q g v (by omega)]; exact j2
  · rw [am_up_ne (by omega), a 13 1 rfl, adO_q g v (by omega)]; exact j3
  · rw [adO_q g v (by omega)] at hm
    rw [am_up_ne (by omega), a 11 _ rfl, adO_o g v (by omega) (Or.inr (by omega))]
    exact j4 m hm k hk
  · rw [adO_1] at hm
    rw [am_up_ne (by omega)]
    by_cases c : m = g 0 1
    · rw [adO_n g v (by omega) c, c, Nat.add_sub_cancel]; exact hv k hk
    · rw [adO_o g v (by omega) (Or.inl c), a 12 _ (by simp [sJO]; omega)]; exact j5 m (by omega) k hk
theorem ag_sJO {J J1 : am_I} {o : Nat} (a : am_ag (sJO o) J J1) : am_ag scrM J J1 := ag_wk a (fun k j h => by
  unfold sJO
  by_cases c : k = 12
  · subst c; exact absurd h (by simp [scrM])
  · simp [c])
theorem cl_O {n : Nat} {t : Nat → Nat} (hG : GT n t) (f d : Nat) (hf : 1000 < f) {I J : am_I} (hI : TC I n t) (hJ : TM J n t) {g : Nat → Nat → Nat} {told : Nat} (hg : GD g) (hC : DC I g told) (hM : DM J g) (ht : told ≤ 1) (LC LM : am_L) {p a : Nat} (ha : a ≤ n) (hp : nb n t a = p) (hx : bx n t p = 112) (hc : g 0 1 < 6) (G : Nat) : clO (fX10_readClause f d (cq I p) LC) (fX12_readWar_b48 f d (G + 1 + 1) (nI told) (nI 1) (mp J a (-nI 1)) LM) n t f d LC LM (G + 1) I J p := by
  have gn := hG.1
  have q1 := hg.1
  have q2 := hg.2.1
  have hpn : p < n := bx_in (n := n) (t := t) (by rw [hx]; omega)
  have h4 := cq_4 I p
  have at' := pc_at hG f d (TC_cq hI p) LC (i := p) (by omega)
  have lk := pm_look hG f d (by omega) hJ LM (-nI 1) (a := a) (by omega)
  rw [hp, hx, en_s] at lk
  rw [hx, en_s] at at'
  have m4 := mp_4 J a (-nI 1)
  have m3 := mp_3 J p (-nI 1)
  have k0 := (DC_cq hC p).1
  have k1 := (DC_cq hC p).2.1
  have k5 := (DC_cq hC p).2.2.2.2.2.1
  have j0 := (DM_mp hM p (-nI 1)).1
  have j1 := (DM_mp hM p (-nI 1)).2.1
  have j0' := (DM_mp hM (p + 1) (-nI 1)).1
  have j1' := (DM_mp hM (p + 1) (-nI 1)).2.1
  have go := pc_go hG f d (by omega) hI LC (p := p) (by omega)
  obtain ⟨r, I1, J1, a1, w1, p1, v, x1, x2, x3, x4, x5⟩ := ic_bothO hG f d hf LC LM (o := 2 * g 0 1) (a := p + 1) (by omega) (by omega) hI hJ
  simp only [Nat.zero_add, Nat.reduceAdd] at x1
  have tC1 : TC I1 n t := TC_ag hI x3 rfl (fun _ => rfl)
  have tM1 : TM J1 n t := TM_ag hJ x4 rfl (fun _ => rfl)
  have tM2 : TM (am_up J1 0 21 (nI (g 0 1 + 1))) n t := TM_up tM1 (by omega)
  have mu := mp_upk J1 a1 w1 (k := 0) (j := 21) (nI (g 0 1 + 1)) (by omega)
  have jj : mp J1 a1 w1 0 21 = nI (g 0 1) := by rw [mp_0 _ _ _ (by omega), x4 0 21 rfl]; exact hM.2.1
  have stM : fX12_readWar_b48 f d (G + 1 + 1) (nI told) (nI 1) (mp J a (-nI 1)) LM = fX12_readWar_b215 f d (fX12_readWar_b48 f d (G + 1)) (nI told) (mp (am_up J1 0 21 (nI (g 0 1 + 1))) a1 w1) LM := by
    rw [show fX12_readWar_b48 f d (G + 1 + 1) = fX12_readWar_b48w f d (fX12_readWar_b48 f d (G + 1)) from rfl]
    generalize fX12_readWar_b48 f d (G + 1) = KK
    simp (disch := omega) only [fX12_readWar_b48w, fX12_readWar_b121, zz_lt, li_0, li_1, li_2, li_3, li_4, li_5, li_6, li_7, li_8, li_9, li_10, li_11, li_12, li_15, li_16, li_20, li_21, li_24, li_25, li_26, li_32, li_33, li_38, li_40, li_41, li_42, li_43, li_45, li_47, li_48, li_57, li_58, li_59, li_60, li_61, li_62, li_63, li_74, li_75, li_84, li_91, li_93, li_98, li_100, li_103, li_105, li_107, li_109, li_110, li_111, li_112, li_115, li_118, li_119, li_120, li_121, li_124, li_140, li_180, li_206, li_240, li_255, li_420, li_520, li_999, li_1000, li_1771, li_8240, li_9999, li_88200, li_1000000, li_2097151, li_31, nI_add, pk_mul, zz_sub, zz_an, nI_clamp, zz_leT, zz_leF, zz_ltT, zz_ltF, zz_eqF, zz_eqT, zz_m1, zz_m2, zz_m3, zz_m4, zz_m5, zz_m6, zz_ck, zz_bl, zz_b3, zz_b2, zz_shl, zz_bt0, zz_bt1, pk_div, Nat.zero_add, Nat.add_zero, if_true, if_false, reduceIte, Nat.mul_zero, zz_or0, zz_inT, zz_inF, m4, lk, m3, mp_up3, j1, j1', x2, jj, mu]
  have agM : am_ag scrM J (am_up J1 0 21 (nI (g 0 1 + 1))) := ag_up (ag_sJO x4) rfl
  rcases x5 with ⟨r1, r2, r3, r4, r5, r6, r7⟩ | ⟨r1, r2, r3, r4⟩
  · subst r1; subst r2; subst r3
    obtain ⟨I2, y1, y2, y3, y4⟩ := pc_adO (v := v) hg (DC_cq (DC_it hC x3) a1) f d LC hc (fun k hk => (r7 k hk).2.2)
    have u0 : cq I1 a1 26 6 = nI (v 0) := by rw [cq_k _ _ (by omega)]; exact (r7 0 (by omega)).1
    have u1 : cq I1 a1 26 7 = nI (v 1) := by rw [cq_k _ _ (by omega)]; exact (r7 1 (by omega)).1
    have kp : fX10_keepClause f d (nI 111) (cq I1 a1) LC = some (I2, LC) := by simp (disch := omega) only [fX10_keepClause, zz_lt, li_0, li_1, li_2, li_3, li_4, li_5, li_6, li_7, li_8, li_9, li_10, li_11, li_12, li_15, li_16, li_20, li_21, li_24, li_25, li_26, li_32, li_33, li_38, li_40, li_41, li_42, li_43, li_45, li_47, li_48, li_57, li_58, li_59, li_60, li_61, li_62, li_63, li_74, li_75, li_84, li_91, li_93, li_98, li_100, li_103, li_105, li_107, li_109, li_110, li_111, li_112, li_115, li_118, li_119, li_120, li_121, li_124, li_140, li_180, li_206, li_240, li_255, li_420, li_520, li_999, li_1000, li_1771, li_8240, li_9999, li_88200, li_1000000, li_2097151, li_31, nI_add, pk_mul, zz_sub, zz_an, nI_clamp, zz_leT, zz_leF, zz_ltT, zz_ltF, zz_eqF, zz_eqT, zz_m1, zz_m2, zz_m3, zz_m4, zz_m5, zz_m6, zz_ck, zz_bl, zz_b3, zz_b2, zz_shl, zz_bt0, zz_bt1, pk_div, Nat.zero_add, Nat.add_zero, if_true, if_false, reduceIte, Nat.mul_zero, zz_or0, zz_inT, zz_inF, u0, u1, y1]
    have c25 : I2 25 4 = nI a1 := by rw [y4 25 4 rfl, cq_4]
    have tC2 : TC I2 n t := TC_ag (TC_cq tC1 a1) y4 rfl (fun _ => rfl)
    refine ⟨I2, am_up J1 0 21 (nI (g 0 1 + 1)), ag_tr (ag_tr (ag_itC x3) (ag_cq I1 a1)) (ag_drC y4), agM, Or.inr ⟨a1, adO g v, told, ?_, r4, by omega, tC2, tM2, y3, y2, DM_O hg hM x4 (fun k hk => (r7 k hk).2.1) hc, ht, ?_⟩⟩
    · rw [cq_self c25]
      simp (disch := omega) only [fX10_readClause, fX10_firstItemOf, fX10_isOneTooMany, fX10_endOfItems, zz_lt, li_0, li_1, li_2, li_3, li_4, li_5, li_6, li_7, li_8, li_9, li_10, li_11, li_12, li_15, li_16, li_20, li_21, li_24, li_25, li_26, li_32, li_33, li_38, li_40, li_41, li_42, li_43, li_45, li_47, li_48, li_57, li_58, li_59, li_60, li_61, li_62, li_63, li_74, li_75, li_84, li_91, li_93, li_98, li_100, li_103, li_105, li_107, li_109, li_110, li_111, li_112, li_115, li_118, li_119, li_120, li_121, li_124, li_140, li_180, li_206, li_240, li_255, li_420, li_520, li_999, li_1000, li_1771, li_8240, li_9999, li_88200, li_1000000, li_2097151, li_31, nI_add, pk_mul, zz_sub, zz_an, nI_clamp, zz_leT, zz_leF, zz_ltT, zz_ltF, zz_eqF, zz_eqT, zz_m1, zz_m2, zz_m3, zz_m4, zz_m5, zz_m6, zz_ck, zz_bl, zz_b3, zz_b2, zz_shl, zz_bt0, zz_bt1, pk_div, Nat.zero_add, Nat.add_zero, if_true, if_false, reduceIte, Nat.mul_zero, zz_or0, zz_inT, zz_inF, h4, at', k1, go, x1, kp]
    · rw [stM]
      by_cases c : a1 < n
      · exact Or.inl ⟨c, r5 c, wB_go hG f d (by omega) tM2 LM _ _ c (r5 c)⟩
      · have e : a1 = n := by omega
        subst e
        exact Or.inr ⟨rfl, wB_stop hG f d (by omega) tM2 LM _ _ (Nat.le_refl _) (fun z => by omega)⟩
  · subst r1
    refine ⟨I1, mp (am_up J1 0 21 (nI (g 0 1 + 1))) a1 (nI p1), ag_itC x3, ag_tr agM (ag_mp _ _ _), Or.inl ⟨p1, ?_, r3, ?_⟩⟩
    · simp (disch := omega) only [fX10_readClause, fX10_firstItemOf, fX10_isOneTooMany, fX10_endOfItems, zz_lt, li_0, li_1, li_2, li_3, li_4, li_5, li_6, li_7, li_8, li_9, li_10, li_11, li_12, li_15, li_16, li_20, li_21, li_24, li_25, li_26, li_32, li_33, li_38, li_40, li_41, li_42, li_43, li_45, li_47, li_48, li_57, li_58, li_59, li_60, li_61, li_62, li_63, li_74, li_75, li_84, li_91, li_93, li_98, li_100, li_103, li_105, li_107, li_109, li_110, li_111, li_112, li_115, li_118, li_119, li_120, li_121, li_124, li_140, li_180, li_206, li_240, li_255, li_420, li_520, li_999, li_1000, li_1771, li_8240, li_9999, li_88200, li_1000000, li_2097151, li_31, nI_add, pk_mul, zz_sub, zz_an, nI_clamp, zz_leT, zz_leF, zz_ltT, zz_ltF, zz_eqF, zz_eqT, zz_m1, zz_m2, zz_m3, zz_m4, zz_m5, zz_m6, zz_ck, zz_bl, zz_b3, zz_b2, zz_shl, zz_bt0, zz_bt1, pk_div, Nat.zero_add, Nat.add_zero, if_true, if_false, reduceIte, Nat.mul_zero, zz_or0, zz_inT, zz_inF, h4, at', k1, go, x1]
    · rw [stM]
      rcases r4 with e | ⟨e1, e2, e3, e4, e5⟩
      · subst e
        rw [wB_bad f d _ LM _ _ a1 (by omega), eW_bad f d _ LM _ a1 (by omega) G]
      · subst e1; subst e2
        rw [wB_stop hG f d (by omega) tM2 LM _ _ (by omega) (fun _ => ⟨e4, e5⟩), eW_unk hG f d (by omega) tM2 LM _ e3 e5 G]
theorem DM_H {J J1 : am_I} {g : Nat → Nat → Nat} {v : Nat → Nat} (hg : GD g) (hM : DM J g) (a : am_ag (sJH (0)) J J1) (hv : ∀ k, k < 2 → J1 13 (0 + k) = nI (v k))  : DM (J1) (adH g v) := by
  obtain ⟨j0, j1, j2, j3, j4, j5⟩ := hM
  have o20 : J1 0 20 = J 0 20 := a 0 20 rfl
  have o21 : J1 0 21 = J 0 21 := a 0 21 rfl
  refine ⟨by rw [o20, adH_o g v (Or.inr (by omega))]; exact j0, by rw [o21, adH_o g v (Or.inr (by omega))]; exact j1, ?_, ?_, fun m hm k hk => ?_, fun m hm k hk => ?_⟩
  · rw [adH_2]; exact hv 0 (by omega)
  · rw [adH_3]; exact hv 1 (by omega)
  · rw [adH_o g v (Or.inr (by omega))] at hm
    rw [a 11 _ rfl, adH_o g v (Or.inl (by omega))]
    exact j4 m hm k hk
  · rw [adH_o g v (Or.inr (by omega))] at hm
    rw [a 12 _ rfl, adH_o g v (Or.inl (by omega))]
    exact j5 m hm k hk
theorem ag_sJH {J J1 : am_I} {o : Nat} (a : am_ag (sJH o) J J1) : am_ag scrM J J1 := ag_wk a (fun k j h => by
  unfold sJH
  by_cases c : k = 13
  · subst c; exact absurd h (by simp [scrM])
  · simp [c])
theorem cl_H {n : Nat} {t : Nat → Nat} (hG : GT n t) (f d : Nat) (hf : 1000 < f) {I J : am_I} (hI : TC I n t) (hJ : TM J n t) {g : Nat → Nat → Nat} {told : Nat} (hg : GD g) (hC : DC I g told) (hM : DM J g) (ht : told ≤ 1) (LC LM : am_L) {p a : Nat} (ha : a ≤ n) (hp : nb n t a = p) (hx : bx n t p = 120) (hc : told = 0) (G : Nat) : clO (fX10_readClause f d (cq I p) LC) (fX12_readWar_b48 f d (G + 1 + 1) (nI told) (nI 1) (mp J a (-nI 1)) LM) n t f d LC LM (G + 1) I J p := by
  have gn := hG.1
  have q1 := hg.1
  have q2 := hg.2.1
  have hpn : p < n := bx_in (n := n) (t := t) (by rw [hx]; omega)
  have h4 := cq_4 I p
  have at' := pc_at hG f d (TC_cq hI p) LC (i := p) (by omega)
  have lk := pm_look hG f d (by omega) hJ LM (-nI 1) (a := a) (by omega)
  rw [hp, hx, en_s] at lk
  rw [hx, en_s] at at'
  have m4 := mp_4 J a (-nI 1)
  have m3 := mp_3 J p (-nI 1)
  have k0 := (DC_cq hC p).1
  have k1 := (DC_cq hC p).2.1
  have k5 := (DC_cq hC p).2.2.2.2.2.1
  have j0 := (DM_mp hM p (-nI 1)).1
  have j1 := (DM_mp hM p (-nI 1)).2.1
  have j0' := (DM_mp hM (p + 1) (-nI 1)).1
  have j1' := (DM_mp hM (p + 1) (-nI 1)).2.1
  have go := pc_go hG f d (by omega) hI LC (p := p) (by omega)
  obtain ⟨r, I1, J1, a1, w1, p1, v, x1, x2, x3, x4, x5⟩ := ic_bothH hG f d hf LC LM (o := 0) (a := p + 1) (by omega) (by omega) hI hJ
  simp only [Nat.zero_add, Nat.reduceAdd] at x1
  have tC1 : TC I1 n t := TC_ag hI x3 rfl (fun _ => rfl)
  have tM1 : TM J1 n t := TM_ag hJ x4 rfl (fun _ => rfl)
  have tM2 : TM (J1) n t := tM1
  have stM : fX12_readWar_b48 f d (G + 1 + 1) (nI told) (nI 1) (mp J a (-nI 1)) LM = fX12_readWar_b215 f d (fX12_readWar_b48 f d (G + 1)) (nI 1) (mp (J1) a1 w1) LM := by
    rw [show fX12_readWar_b48 f d (G + 1 + 1) = fX12_readWar_b48w f d (fX12_readWar_b48 f d (G + 1)) from rfl]
    generalize fX12_readWar_b48 f d (G + 1) = KK
    simp (disch := omega) only [fX12_readWar_b48w, fX12_readWar_b121, fX12_readWar_b175, zz_lt, li_0, li_1, li_2, li_3, li_4, li_5, li_6, li_7, li_8, li_9, li_10, li_11, li_12, li_15, li_16, li_20, li_21, li_24, li_25, li_26, li_32, li_33, li_38, li_40, li_41, li_42, li_43, li_45, li_47, li_48, li_57, li_58, li_59, li_60, li_61, li_62, li_63, li_74, li_75, li_84, li_91, li_93, li_98, li_100, li_103, li_105, li_107, li_109, li_110, li_111, li_112, li_115, li_118, li_119, li_120, li_121, li_124, li_140, li_180, li_206, li_240, li_255, li_420, li_520, li_999, li_1000, li_1771, li_8240, li_9999, li_88200, li_1000000, li_2097151, li_31, nI_add, pk_mul, zz_sub, zz_an, nI_clamp, zz_leT, zz_leF, zz_ltT, zz_ltF, zz_eqF, zz_eqT, zz_m1, zz_m2, zz_m3, zz_m4, zz_m5, zz_m6, zz_ck, zz_bl, zz_b3, zz_b2, zz_shl, zz_bt0, zz_bt1, pk_div, Nat.zero_add, Nat.add_zero, if_true, if_false, reduceIte, Nat.mul_zero, zz_or0, zz_inT, zz_inF, m4, lk, m3, mp_up3, hc, x2]
  have agM : am_ag scrM J (J1) := ag_sJH x4
  rcases x5 with ⟨r1, r2, r3, r4, r5, r6, r7⟩ | ⟨r1, r2, r3, r4⟩
  · subst r1; subst r2; subst r3
    obtain ⟨y2, y3, y4⟩ := pc_adH (v := v) hg (DC_cq (DC_it hC x3) a1) (fun k hk => (r7 k hk).2.2)
    obtain ⟨I2, hI2⟩ : ∃ I2, I2 = am_up (am_up (am_up (cq I1 a1) 14 2 (nI (v 0))) 14 3 (nI (v 1))) 25 5 (nI 1) := ⟨_, rfl⟩
    have u0 : cq I1 a1 26 8 = nI (v 0) := by rw [cq_k _ _ (by omega)]; exact (r7 0 (by omega)).1
    have u1 : cq I1 a1 26 9 = nI (v 1) := by rw [cq_k _ _ (by omega)]; exact (r7 1 (by omega)).1
    have kp : fX10_keepClause f d (nI 119) (cq I1 a1) LC = some (I2, LC) := by
      rw [hI2]
      simp (disch := omega) only [fX10_keepClause, zz_lt, li_0, li_1, li_2, li_3, li_4, li_5, li_6, li_7, li_8, li_9, li_10, li_11, li_12, li_15, li_16, li_20, li_21, li_24, li_25, li_26, li_32, li_33, li_38, li_40, li_41, li_42, li_43, li_45, li_47, li_48, li_57, li_58, li_59, li_60, li_61, li_62, li_63, li_74, li_75, li_84, li_91, li_93, li_98, li_100, li_103, li_105, li_107, li_109, li_110, li_111, li_112, li_115, li_118, li_119, li_120, li_121, li_124, li_140, li_180, li_206, li_240, li_255, li_420, li_520, li_999, li_1000, li_1771, li_8240, li_9999, li_88200, li_1000000, li_2097151, li_31, nI_add, pk_mul, zz_sub, zz_an, nI_clamp, zz_leT, zz_leF, zz_ltT, zz_ltF, zz_eqF, zz_eqT, zz_m1, zz_m2, zz_m3, zz_m4, zz_m5, zz_m6, zz_ck, zz_bl, zz_b3, zz_b2, zz_shl, zz_bt0, zz_bt1, pk_div, Nat.zero_add, Nat.add_zero, if_true, if_false, reduceIte, Nat.mul_zero, zz_or0, zz_inT, zz_inF, u0, u1, am_up_ne]
    rw [← hI2] at y2 y4
    have c25 : I2 25 4 = nI a1 := by rw [y4 25 4 rfl, cq_4]
    have tC2 : TC I2 n t := TC_ag (TC_cq tC1 a1) y4 rfl (fun _ => rfl)
    refine ⟨I2, J1, ag_tr (ag_tr (ag_itC x3) (ag_cq I1 a1)) (ag_drC y4), agM, Or.inr ⟨a1, adH g v, 1, ?_, r4, by omega, tC2, tM2, y3, y2, DM_H hg hM x4 (fun k hk => (r7 k hk).2.1), by omega, ?_⟩⟩
    · rw [cq_self c25]
      simp (disch := omega) only [fX10_readClause, fX10_firstItemOf, fX10_isOneTooMany, fX10_endOfItems, zz_lt, li_0, li_1, li_2, li_3, li_4, li_5, li_6, li_7, li_8, li_9, li_10, li_11, li_12, li_15, li_16, li_20, li_21, li_24, li_25, li_26, li_32, li_33, li_38, li_40, li_41, li_42, li_43, li_45, li_47, li_48, li_57, li_58, li_59, li_60, li_61, li_62, li_63, li_74, li_75, li_84, li_91, li_93, li_98, li_100, li_103, li_105, li_107, li_109, li_110, li_111, li_112, li_115, li_118, li_119, li_120, li_121, li_124, li_140, li_180, li_206, li_240, li_255, li_420, li_520, li_999, li_1000, li_1771, li_8240, li_9999, li_88200, li_1000000, li_2097151, li_31, nI_add, pk_mul, zz_sub, zz_an, nI_clamp, zz_leT, zz_leF, zz_ltT, zz_ltF, zz_eqF, zz_eqT, zz_m1, zz_m2, zz_m3, zz_m4, zz_m5, zz_m6, zz_ck, zz_bl, zz_b3, zz_b2, zz_shl, zz_bt0, zz_bt1, pk_div, Nat.zero_add, Nat.add_zero, if_true, if_false, reduceIte, Nat.mul_zero, zz_or0, zz_inT, zz_inF, h4, at', k5, go, x1, kp, hc]
    · rw [stM]
      by_cases c : a1 < n
      · exact Or.inl ⟨c, r5 c, wB_go hG f d (by omega) tM2 LM _ _ c (r5 c)⟩
      · have e : a1 = n := by omega
        subst e
        exact Or.inr ⟨rfl, wB_stop hG f d (by omega) tM2 LM _ _ (Nat.le_refl _) (fun z => by omega)⟩
  · subst r1
    refine ⟨I1, mp (J1) a1 (nI p1), ag_itC x3, ag_tr agM (ag_mp _ _ _), Or.inl ⟨p1, ?_, r3, ?_⟩⟩
    · simp (disch := omega) only [fX10_readClause, fX10_firstItemOf, fX10_isOneTooMany, fX10_endOfItems, zz_lt, li_0, li_1, li_2, li_3, li_4, li_5, li_6, li_7, li_8, li_9, li_10, li_11, li_12, li_15, li_16, li_20, li_21, li_24, li_25, li_26, li_32, li_33, li_38, li_40, li_41, li_42, li_43, li_45, li_47, li_48, li_57, li_58, li_59, li_60, li_61, li_62, li_63, li_74, li_75, li_84, li_91, li_93, li_98, li_100, li_103, li_105, li_107, li_109, li_110, li_111, li_112, li_115, li_118, li_119, li_120, li_121, li_124, li_140, li_180, li_206, li_240, li_255, li_420, li_520, li_999, li_1000, li_1771, li_8240, li_9999, li_88200, li_1000000, li_2097151, li_31, nI_add, pk_mul, zz_sub, zz_an, nI_clamp, zz_leT, zz_leF, zz_ltT, zz_ltF, zz_eqF, zz_eqT, zz_m1, zz_m2, zz_m3, zz_m4, zz_m5, zz_m6, zz_ck, zz_bl, zz_b3, zz_b2, zz_shl, zz_bt0, zz_bt1, pk_div, Nat.zero_add, Nat.add_zero, if_true, if_false, reduceIte, Nat.mul_zero, zz_or0, zz_inT, zz_inF, h4, at', k5, go, x1, hc]
    · rw [stM]
      rcases r4 with e | ⟨e1, e2, e3, e4, e5⟩
      · subst e
        rw [wB_bad f d _ LM _ _ a1 (by omega), eW_bad f d _ LM _ a1 (by omega) G]
      · subst e1; subst e2
        rw [wB_stop hG f d (by omega) tM2 LM _ _ (by omega) (fun _ => ⟨e4, e5⟩), eW_unk hG f d (by omega) tM2 LM _ e3 e5 G]
