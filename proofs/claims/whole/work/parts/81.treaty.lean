/-! PURE: treaty; wins of the model. -/
theorem tr_C {g : Nat → Nat → Nat} (hg : GW g) (n d : Nat) {I : am_I} (L : am_L) {x y G O a r b q M : Nat} (h : RY I g x y G O) (ha : 1 ≤ a ∧ a ≤ 20) (hr : r ≤ gRest g a) (hb : 1 ≤ b ∧ b ≤ 20) (hq : q ≤ gRest g b) (hG : plc g a r ≤ G) (hO : plc g b q ≤ O) (hM : M ≤ r) (hM' : M ≤ q) (f : Nat → Bool) (hf : ∀ k, k ≤ M → (DU g x y a (r - k) b (q - k)).1.1 = f k) : ∀ (j k F : Nat), k + j = M → j < F → fX11_treaty_t_b76 n d F (nI (plc g a r)) (nI (plc g b q)) (nI (f 0).toNat) (nI M) (nI k) (nI (k + 1)) I L = some (nI (trn f M j k), I, L)
  | _, _, 0, _, z => by omega
  | 0, k, F + 1, e, _ => by
    have g9 := gRest_le hg a
    have e1 : k = M := by omega
    subst e1
    simp (disch := omega) only [fX11_treaty_t_b76, fX11_treaty_t_b76w, zz_lt, li_0, li_1, li_2, li_3, li_4, li_5, li_6, li_7, li_8, li_9, li_10, li_11, li_12, li_15, li_16, li_20, li_21, li_24, li_25, li_26, li_32, li_33, li_38, li_40, li_41, li_42, li_43, li_45, li_47, li_48, li_57, li_58, li_59, li_60, li_61, li_62, li_63, li_74, li_75, li_84, li_91, li_93, li_98, li_100, li_103, li_105, li_107, li_109, li_110, li_111, li_112, li_115, li_118, li_119, li_120, li_121, li_124, li_140, li_180, li_206, li_240, li_255, li_420, li_520, li_999, li_1000, li_1771, li_8240, li_9999, li_88200, li_1000000, li_2097151, li_31, nI_add, pk_mul, zz_sub, zz_an, nI_clamp, zz_leT, zz_leF, zz_ltT, zz_ltF, zz_eqF, zz_eqT, zz_m1, zz_m2, zz_m3, zz_m4, zz_m5, zz_m6, zz_ck, zz_bl, zz_b3, zz_b2, zz_shl, zz_bt0, zz_bt1, pk_div, Nat.zero_add, Nat.add_zero, if_true, if_false, reduceIte, Nat.mul_zero, zz_or0, zz_inT, zz_inF, trn]
  | j + 1, k, F + 1, e, fl => by
    have g9 := gRest_le hg a
    have ih := tr_C hg n d L h ha hr hb hq hG hO hM hM' f hf j (k + 1) F (by omega) (by omega)
    have pa := plc_le hg ha.2 hr
    have pb := plc_le hg hb.2 hq
    have la := lwS_m g (a := 0) (b := a) (by omega)
    have lb := lwS_m g (a := 0) (b := b) (by omega)
    have ua : plc g a (r - (k + 1)) = plc g a r - (k + 1) := by unfold plc; omega
    have ub : plc g b (q - (k + 1)) = plc g b q - (k + 1) := by unfold plc; omega
    have u1 : plc g a r = lwS g a + r := rfl
    have u2 : plc g b q = lwS g b + q := rfl
    have w := pc_won hg n d L h ha (r := r - (k + 1)) (by omega) hb (q := q - (k + 1)) (by omega) (by omega) (by omega)
    rw [hf (k + 1) (by omega), ua, ub] at w
    have t : trn f M (j + 1) k = if f (k + 1) = f 0 then trn f M j (k + 1) else k := by
      show (if k < M ∧ f (k + 1) = f 0 then trn f M j (k + 1) else k) = _
      by_cases c : f (k + 1) = f 0
      · rw [if_pos ⟨by omega, c⟩, if_pos c]
      · rw [if_neg (fun z => c z.2), if_neg c]
    rw [t]
    by_cases c : f (k + 1) = f 0
    · rw [if_pos c]
      rw [c] at w
      simp (disch := omega) only [fX11_treaty_t_b76, fX11_treaty_t_b76w, fX11_treaty_t_b99, zz_lt, li_0, li_1, li_2, li_3, li_4, li_5, li_6, li_7, li_8, li_9, li_10, li_11, li_12, li_15, li_16, li_20, li_21, li_24, li_25, li_26, li_32, li_33, li_38, li_40, li_41, li_42, li_43, li_45, li_47, li_48, li_57, li_58, li_59, li_60, li_61, li_62, li_63, li_74, li_75, li_84, li_91, li_93, li_98, li_100, li_103, li_105, li_107, li_109, li_110, li_111, li_112, li_115, li_118, li_119, li_120, li_121, li_124, li_140, li_180, li_206, li_240, li_255, li_420, li_520, li_999, li_1000, li_1771, li_8240, li_9999, li_88200, li_1000000, li_2097151, li_31, nI_add, pk_mul, zz_sub, zz_an, nI_clamp, zz_leT, zz_leF, zz_ltT, zz_ltF, zz_eqF, zz_eqT, zz_m1, zz_m2, zz_m3, zz_m4, zz_m5, zz_m6, zz_ck, zz_bl, zz_b3, zz_b2, zz_shl, zz_bt0, zz_bt1, pk_div, Nat.zero_add, Nat.add_zero, if_true, if_false, reduceIte, Nat.mul_zero, zz_or0, zz_inT, zz_inF, w]
      exact ih
    · rw [if_neg c]
      have c' : (nI (f (k + 1)).toNat = nI (f 0).toNat) = False := by
        cases c1 : f (k + 1) <;> cases c2 : f 0
        · rw [c1, c2] at c; exact absurd rfl c
        · exact zz_eqF (by rw [Bool.toNat_false, Bool.toNat_true]; omega)
        · exact zz_eqF (by rw [Bool.toNat_false, Bool.toNat_true]; omega)
        · rw [c1, c2] at c; exact absurd rfl c
      simp (disch := omega) only [fX11_treaty_t_b76, fX11_treaty_t_b76w, fX11_treaty_t_b99, zz_lt, li_0, li_1, li_2, li_3, li_4, li_5, li_6, li_7, li_8, li_9, li_10, li_11, li_12, li_15, li_16, li_20, li_21, li_24, li_25, li_26, li_32, li_33, li_38, li_40, li_41, li_42, li_43, li_45, li_47, li_48, li_57, li_58, li_59, li_60, li_61, li_62, li_63, li_74, li_75, li_84, li_91, li_93, li_98, li_100, li_103, li_105, li_107, li_109, li_110, li_111, li_112, li_115, li_118, li_119, li_120, li_121, li_124, li_140, li_180, li_206, li_240, li_255, li_420, li_520, li_999, li_1000, li_1771, li_8240, li_9999, li_88200, li_1000000, li_2097151, li_31, nI_add, pk_mul, zz_sub, zz_an, nI_clamp, zz_leT, zz_leF, zz_ltT, zz_ltF, zz_eqF, zz_eqT, zz_m1, zz_m2, zz_m3, zz_m4, zz_m5, zz_m6, zz_ck, zz_bl, zz_b3, zz_b2, zz_shl, zz_bt0, zz_bt1, pk_div, Nat.zero_add, Nat.add_zero, if_true, if_false, reduceIte, Nat.mul_zero, zz_or0, zz_inT, zz_inF, w, c']
theorem tr_M {g : Nat → Nat → Nat} (hg : GW g) (n d : Nat) (hn : 88200 < n) (hd : 150 < d) (L : am_L) {m o M : Nat} (hm : m < g 0 0) (ho : o < g 0 0) (h9 : 1 ≤ g 9 m) (h9' : 1 ≤ g 9 o) (hM : M ≤ g 10 m) (hM' : M ≤ g 10 o) (f : Nat → Bool) (hf : ∀ k, k ≤ M → (DU g (g 3 m) (g 3 o) (g 9 m) (g 10 m - k) (g 9 o) (g 10 o - k)).1.1 = f k) : ∀ (j k F : Nat) (I : am_I), k + j = M → j < F → MS I g → ∃ I', fX12_treaty_b53 n d F (nI m) (nI o) (nI (f 0).toNat) (nI M) (nI k) I L = some (nI (trn f M j k), I', L) ∧ am_ag scrM I I'
  | _, _, 0, _, _, z, _ => by omega
  | 0, k, F + 1, I, e, _, h => by
    have rr := hg.2.2.2.2.2.2.2.2.1 m hm
    have g9 := gRest_le hg (g 9 m)
    have e1 : k = M := by omega
    subst e1
    exact ⟨I, by simp (disch := omega) only [fX12_treaty_b53, fX12_treaty_b53w, zz_lt, li_0, li_1, li_2, li_3, li_4, li_5, li_6, li_7, li_8, li_9, li_10, li_11, li_12, li_15, li_16, li_20, li_21, li_24, li_25, li_26, li_32, li_33, li_38, li_40, li_41, li_42, li_43, li_45, li_47, li_48, li_57, li_58, li_59, li_60, li_61, li_62, li_63, li_74, li_75, li_84, li_91, li_93, li_98, li_100, li_103, li_105, li_107, li_109, li_110, li_111, li_112, li_115, li_118, li_119, li_120, li_121, li_124, li_140, li_180, li_206, li_240, li_255, li_420, li_520, li_999, li_1000, li_1771, li_8240, li_9999, li_88200, li_1000000, li_2097151, li_31, nI_add, pk_mul, zz_sub, zz_an, nI_clamp, zz_leT, zz_leF, zz_ltT, zz_ltF, zz_eqF, zz_eqT, zz_m1, zz_m2, zz_m3, zz_m4, zz_m5, zz_m6, zz_ck, zz_bl, zz_b3, zz_b2, zz_shl, zz_bt0, zz_bt1, pk_div, Nat.zero_add, Nat.add_zero, if_true, if_false, reduceIte, Nat.mul_zero, zz_or0, zz_inT, zz_inF, trn], ag_rf⟩
  | j + 1, k, F + 1, I, e, fl, h => by
    have rr := hg.2.2.2.2.2.2.2.2.1 m hm
    have g9 := gRest_le hg (g 9 m)
    obtain ⟨I1, w1, w2, _⟩ := pm_dw hg n d hn hd h L (e := k + 1) hm ho h9 h9' (by omega) (by omega)
    have dn := DU_n g (g 3 m) (g 3 o) (g 9 m) (g 10 m - (k + 1)) (g 9 o) (g 10 o - (k + 1))
    have fk := hf (k + 1) (by omega)
    generalize DU g (g 3 m) (g 3 o) (g 9 m) (g 10 m - (k + 1)) (g 9 o) (g 10 o - (k + 1)) = V at w1 dn fk
    have pos := svd_pos (v := V.1) dn.1.1 (by omega)
    rw [fk] at pos
    obtain ⟨I2, v1, v2⟩ := tr_M hg n d hn hd L hm ho h9 h9' hM hM' f hf j (k + 1) F I1 (by omega) (by omega) (MS_keep h w2)
    have t : trn f M (j + 1) k = if f (k + 1) = f 0 then trn f M j (k + 1) else k := by
      show (if k < M ∧ f (k + 1) = f 0 then trn f M j (k + 1) else k) = _
      by_cases c : f (k + 1) = f 0
      · rw [if_pos ⟨by omega, c⟩, if_pos c]
      · rw [if_neg (fun z => c z.2), if_neg c]
    have st : fX12_treaty_b53 n d (F + 1) (nI m) (nI o) (nI (f 0).toNat) (nI M) (nI k) I L = fX12_treaty_b78 n d (fX12_treaty_b53 n d F) (nI (f (k + 1)).toNat) (nI m) (nI o) (nI (f 0).toNat) (nI M) (nI k) I1 L := by
      cases c1 : f (k + 1)
      · rw [c1] at pos
        simp (disch := omega) only [fX12_treaty_b53, fX12_treaty_b53w, zz_lt, li_0, li_1, li_2, li_3, li_4, li_5, li_6, li_7, li_8, li_9, li_10, li_11, li_12, li_15, li_16, li_20, li_21, li_24, li_25, li_26, li_32, li_33, li_38, li_40, li_41, li_42, li_43, li_45, li_47, li_48, li_57, li_58, li_59, li_60, li_61, li_62, li_63, li_74, li_75, li_84, li_91, li_93, li_98, li_100, li_103, li_105, li_107, li_109, li_110, li_111, li_112, li_115, li_118, li_119, li_120, li_121, li_124, li_140, li_180, li_206, li_240, li_255, li_420, li_520, li_999, li_1000, li_1771, li_8240, li_9999, li_88200, li_1000000, li_2097151, li_31, nI_add, pk_mul, zz_sub, zz_an, nI_clamp, zz_leT, zz_leF, zz_ltT, zz_ltF, zz_eqF, zz_eqT, zz_m1, zz_m2, zz_m3, zz_m4, zz_m5, zz_m6, zz_ck, zz_bl, zz_b3, zz_b2, zz_shl, zz_bt0, zz_bt1, pk_div, Nat.zero_add, Nat.add_zero, if_true, if_false, reduceIte, Nat.mul_zero, zz_or0, zz_inT, zz_inF, w1, pos, Bool.toNat_false]
      · rw [c1] at pos
        simp (disch := omega) only [fX12_treaty_b53, fX12_treaty_b53w, zz_lt, li_0, li_1, li_2, li_3, li_4, li_5, li_6, li_7, li_8, li_9, li_10, li_11, li_12, li_15, li_16, li_20, li_21, li_24, li_25, li_26, li_32, li_33, li_38, li_40, li_41, li_42, li_43, li_45, li_47, li_48, li_57, li_58, li_59, li_60, li_61, li_62, li_63, li_74, li_75, li_84, li_91, li_93, li_98, li_100, li_103, li_105, li_107, li_109, li_110, li_111, li_112, li_115, li_118, li_119, li_120, li_121, li_124, li_140, li_180, li_206, li_240, li_255, li_420, li_520, li_999, li_1000, li_1771, li_8240, li_9999, li_88200, li_1000000, li_2097151, li_31, nI_add, pk_mul, zz_sub, zz_an, nI_clamp, zz_leT, zz_leF, zz_ltT, zz_ltF, zz_eqF, zz_eqT, zz_m1, zz_m2, zz_m3, zz_m4, zz_m5, zz_m6, zz_ck, zz_bl, zz_b3, zz_b2, zz_shl, zz_bt0, zz_bt1, pk_div, Nat.zero_add, Nat.add_zero, if_true, if_false, reduceIte, Nat.mul_zero, zz_or0, zz_inT, zz_inF, w1, pos, Bool.toNat_true, Bool.true_eq_false]
    rw [t, st]
    by_cases c : f (k + 1) = f 0
    · refine ⟨I2, ?_, ag_tr w2 v2⟩
      rw [if_pos c, c, ← v1]
      simp (disch := omega) only [fX12_treaty_b78, zz_lt, li_0, li_1, li_2, li_3, li_4, li_5, li_6, li_7, li_8, li_9, li_10, li_11, li_12, li_15, li_16, li_20, li_21, li_24, li_25, li_26, li_32, li_33, li_38, li_40, li_41, li_42, li_43, li_45, li_47, li_48, li_57, li_58, li_59, li_60, li_61, li_62, li_63, li_74, li_75, li_84, li_91, li_93, li_98, li_100, li_103, li_105, li_107, li_109, li_110, li_111, li_112, li_115, li_118, li_119, li_120, li_121, li_124, li_140, li_180, li_206, li_240, li_255, li_420, li_520, li_999, li_1000, li_1771, li_8240, li_9999, li_88200, li_1000000, li_2097151, li_31, nI_add, pk_mul, zz_sub, zz_an, nI_clamp, zz_leT, zz_leF, zz_ltT, zz_ltF, zz_eqF, zz_eqT, zz_m1, zz_m2, zz_m3, zz_m4, zz_m5, zz_m6, zz_ck, zz_bl, zz_b3, zz_b2, zz_shl, zz_bt0, zz_bt1, pk_div, Nat.zero_add, Nat.add_zero, if_true, if_false, reduceIte, Nat.mul_zero, zz_or0, zz_inT, zz_inF]
    · refine ⟨I1, ?_, w2⟩
      have c' : (nI (f (k + 1)).toNat = nI (f 0).toNat) = False := by
        cases c1 : f (k + 1) <;> cases c2 : f 0
        · rw [c1, c2] at c; exact absurd rfl c
        · exact zz_eqF (by rw [Bool.toNat_false, Bool.toNat_true]; omega)
        · exact zz_eqF (by rw [Bool.toNat_false, Bool.toNat_true]; omega)
        · rw [c1, c2] at c; exact absurd rfl c
      rw [if_neg c]
      simp (disch := omega) only [fX12_treaty_b78, zz_lt, li_0, li_1, li_2, li_3, li_4, li_5, li_6, li_7, li_8, li_9, li_10, li_11, li_12, li_15, li_16, li_20, li_21, li_24, li_25, li_26, li_32, li_33, li_38, li_40, li_41, li_42, li_43, li_45, li_47, li_48, li_57, li_58, li_59, li_60, li_61, li_62, li_63, li_74, li_75, li_84, li_91, li_93, li_98, li_100, li_103, li_105, li_107, li_109, li_110, li_111, li_112, li_115, li_118, li_119, li_120, li_121, li_124, li_140, li_180, li_206, li_240, li_255, li_420, li_520, li_999, li_1000, li_1771, li_8240, li_9999, li_88200, li_1000000, li_2097151, li_31, nI_add, pk_mul, zz_sub, zz_an, nI_clamp, zz_leT, zz_leF, zz_ltT, zz_ltF, zz_eqF, zz_eqT, zz_m1, zz_m2, zz_m3, zz_m4, zz_m5, zz_m6, zz_ck, zz_bl, zz_b3, zz_b2, zz_shl, zz_bt0, zz_bt1, pk_div, Nat.zero_add, Nat.add_zero, if_true, if_false, reduceIte, Nat.mul_zero, zz_or0, zz_inT, zz_inF, c']
theorem opn_treaty {g : Nat → Nat → Nat} {IC IM : am_I} (n d : Nat) (hn : 88200 < n) (hd : 150 < d) (hg : GW g) (hc : CS IC g) (h : MS IM g) (hR : g 0 0 = 0 ∨ rDu IC g) (LC LM : am_L) (e0 e1 : Int32) : am_du (fX11_treaty_t n d e0 e1 IC LC) (fX12_treaty n d e0 e1 IM LM) IC LC IM LM g := by
  have gm := hg.1
  rcases may0 hg n d hc h LC LM e0 e1 with ⟨w1, w2⟩ | ⟨m, o, hm, ho, rfl, rfl, h9, h9', w1, w2⟩
  · exact ⟨-nI 1, IC, IM, by simp (disch := omega) only [fX11_treaty_t, zz_lt, li_0, li_1, li_2, li_3, li_4, li_5, li_6, li_7, li_8, li_9, li_10, li_11, li_12, li_15, li_16, li_20, li_21, li_24, li_25, li_26, li_32, li_33, li_38, li_40, li_41, li_42, li_43, li_45, li_47, li_48, li_57, li_58, li_59, li_60, li_61, li_62, li_63, li_74, li_75, li_84, li_91, li_93, li_98, li_100, li_103, li_105, li_107, li_109, li_110, li_111, li_112, li_115, li_118, li_119, li_120, li_121, li_124, li_140, li_180, li_206, li_240, li_255, li_420, li_520, li_999, li_1000, li_1771, li_8240, li_9999, li_88200, li_1000000, li_2097151, li_31, nI_add, pk_mul, zz_sub, zz_an, nI_clamp, zz_leT, zz_leF, zz_ltT, zz_ltF, zz_eqF, zz_eqT, zz_m1, zz_m2, zz_m3, zz_m4, zz_m5, zz_m6, zz_ck, zz_bl, zz_b3, zz_b2, zz_shl, zz_bt0, zz_bt1, pk_div, Nat.zero_add, Nat.add_zero, if_true, if_false, reduceIte, Nat.mul_zero, zz_or0, zz_inT, zz_inF, w1], by simp (disch := omega) only [fX12_treaty, zz_lt, li_0, li_1, li_2, li_3, li_4, li_5, li_6, li_7, li_8, li_9, li_10, li_11, li_12, li_15, li_16, li_20, li_21, li_24, li_25, li_26, li_32, li_33, li_38, li_40, li_41, li_42, li_43, li_45, li_47, li_48, li_57, li_58, li_59, li_60, li_61, li_62, li_63, li_74, li_75, li_84, li_91, li_93, li_98, li_100, li_103, li_105, li_107, li_109, li_110, li_111, li_112, li_115, li_118, li_119, li_120, li_121, li_124, li_140, li_180, li_206, li_240, li_255, li_420, li_520, li_999, li_1000, li_1771, li_8240, li_9999, li_88200, li_1000000, li_2097151, li_31, nI_add, pk_mul, zz_sub, zz_an, nI_clamp, zz_leT, zz_leF, zz_ltT, zz_ltF, zz_eqF, zz_eqT, zz_m1, zz_m2, zz_m3, zz_m4, zz_m5, zz_m6, zz_ck, zz_bl, zz_b3, zz_b2, zz_shl, zz_bt0, zz_bt1, pk_div, Nat.zero_add, Nat.add_zero, if_true, if_false, reduceIte, Nat.mul_zero, zz_or0, zz_inT, zz_inF, w2], ag_rf, ag_rf, hR⟩
  · have hR' : rDu IC g := hR.resolve_left (by omega)
    obtain ⟨I', G, O, v1, v2, v3, v4, v5, v6, v7⟩ := pc_ready hg n d (by omega) hc hR' LC hm ho
    have c' := CS_Dq hc (ag_Dq v7)
    have p1 := pc_placeOf hg n d c' v2 LC hm
    have p2 := pc_placeOf hg n d c' v2 LC ho
    have rr1 := hg.2.2.2.2.2.2.2.2.1 m hm
    have rr2 := hg.2.2.2.2.2.2.2.2.1 o ho
    have g91 := gRest_le hg (g 9 m)
    have g92 := gRest_le hg (g 9 o)
    obtain ⟨M, hM⟩ : ∃ M, M = min (g 10 m) (g 10 o) := ⟨_, rfl⟩
    have M1 : M ≤ g 10 m := by rw [hM]; exact Nat.min_le_left _ _
    have M2 : M ≤ g 10 o := by rw [hM]; exact Nat.min_le_right _ _
    obtain ⟨f, hf⟩ : ∃ f : Nat → Bool, f = fun k => (DU g (g 3 m) (g 3 o) (g 9 m) (g 10 m - k) (g 9 o) (g 10 o - k)).1.1 := ⟨_, rfl⟩
    have hf' : ∀ k, k ≤ M → (DU g (g 3 m) (g 3 o) (g 9 m) (g 10 m - k) (g 9 o) (g 10 o - k)).1.1 = f k := fun k _ => by rw [hf]
    have q1 := pc_won hg n d LC v4 ⟨h9, rr1.1⟩ rr1.2.1 ⟨h9', rr2.1⟩ rr2.2.1 v5 v6
    have f0 := hf' 0 (Nat.zero_le _)
    rw [Nat.sub_zero, Nat.sub_zero] at f0
    rw [f0] at q1
    obtain ⟨J1, y1, y2, _⟩ := pm_dw hg n d hn hd h LM (e := 0) hm ho h9 h9' (Nat.zero_le _) (Nat.zero_le _)
    rw [Nat.sub_zero, Nat.sub_zero] at y1
    have dn := DU_n g (g 3 m) (g 3 o) (g 9 m) (g 10 m) (g 9 o) (g 10 o)
    have tc := tr_C hg n d LC v4 ⟨h9, rr1.1⟩ rr1.2.1 ⟨h9', rr2.1⟩ rr2.2.1 v5 v6 M1 M2 f hf' M 0 n (by omega) (by omega)
    obtain ⟨J2, z1, z2⟩ := tr_M hg n d hn hd LM hm ho h9 h9' M1 M2 f hf' M 0 n J1 (by omega) (by omega) (MS_keep h y2)
    have rd : g 0 0 = 0 ∨ rDu I' g := Or.inr (rDu_of hg hm ho v2 v3 v4)
    generalize DU g (g 3 m) (g 3 o) (g 9 m) (g 10 m) (g 9 o) (g 10 o) = V at y1 dn f0
    have pos := svd_pos (v := V.1) dn.1.1 (by omega)
    rw [f0] at pos
    have r1m := c'.2.2.2.2.2.2.2.2.2.2.2.2.2.2.1 m hm
    have r1o := c'.2.2.2.2.2.2.2.2.2.2.2.2.2.2.1 o ho
    have k1 := (MS_keep h y2).2.2.2.2.2.2.2.2.2.2.2.2.2.2.1 m hm
    have k2 := (MS_keep h y2).2.2.2.2.2.2.2.2.2.2.2.2.2.2.1 o ho
    have mnC := J_min n d (g 10 m) (g 10 o) I' LC (by omega) (by omega)
    have mnC2 : fJ9_min_7cf53 n d (nI 9) (nI M) I' LC = some (nI M, I', LC) := by rw [J_min n d 9 M I' LC (by omega) (by omega), Nat.min_eq_right (by omega)]
    have mnM := J_min n d (g 10 m) (g 10 o) J1 LM (by omega) (by omega)
    rw [← hM] at mnC mnM
    have zk : (0 : Nat) + 1 = 1 := rfl
    rw [zk] at tc
    refine ⟨nI (trn f M M 0), I', J2, ?_, ?_, ag_Dq v7, ag_tr y2 z2, rd⟩
    · simp (disch := omega) only [fX11_treaty_t, fX11_treaty_t_b17, fX11_treaty_t_b40, zz_lt, li_0, li_1, li_2, li_3, li_4, li_5, li_6, li_7, li_8, li_9, li_10, li_11, li_12, li_15, li_16, li_20, li_21, li_24, li_25, li_26, li_32, li_33, li_38, li_40, li_41, li_42, li_43, li_45, li_47, li_48, li_57, li_58, li_59, li_60, li_61, li_62, li_63, li_74, li_75, li_84, li_91, li_93, li_98, li_100, li_103, li_105, li_107, li_109, li_110, li_111, li_112, li_115, li_118, li_119, li_120, li_121, li_124, li_140, li_180, li_206, li_240, li_255, li_420, li_520, li_999, li_1000, li_1771, li_8240, li_9999, li_88200, li_1000000, li_2097151, li_31, nI_add, pk_mul, zz_sub, zz_an, nI_clamp, zz_leT, zz_leF, zz_ltT, zz_ltF, zz_eqF, zz_eqT, zz_m1, zz_m2, zz_m3, zz_m4, zz_m5, zz_m6, zz_ck, zz_bl, zz_b3, zz_b2, zz_shl, zz_bt0, zz_bt1, pk_div, Nat.zero_add, Nat.add_zero, if_true, if_false, reduceIte, Nat.mul_zero, zz_or0, zz_inT, zz_inF, w1, v1, p1, p2, q1, r1m, r1o, mnC, mnC2, tc]
    · cases c1 : f 0
      · rw [c1] at pos z1
        rw [Bool.toNat_false] at z1
        simp (disch := omega) only [fX12_treaty, fX12_treaty_b26, zz_lt, li_0, li_1, li_2, li_3, li_4, li_5, li_6, li_7, li_8, li_9, li_10, li_11, li_12, li_15, li_16, li_20, li_21, li_24, li_25, li_26, li_32, li_33, li_38, li_40, li_41, li_42, li_43, li_45, li_47, li_48, li_57, li_58, li_59, li_60, li_61, li_62, li_63, li_74, li_75, li_84, li_91, li_93, li_98, li_100, li_103, li_105, li_107, li_109, li_110, li_111, li_112, li_115, li_118, li_119, li_120, li_121, li_124, li_140, li_180, li_206, li_240, li_255, li_420, li_520, li_999, li_1000, li_1771, li_8240, li_9999, li_88200, li_1000000, li_2097151, li_31, nI_add, pk_mul, zz_sub, zz_an, nI_clamp, zz_leT, zz_leF, zz_ltT, zz_ltF, zz_eqF, zz_eqT, zz_m1, zz_m2, zz_m3, zz_m4, zz_m5, zz_m6, zz_ck, zz_bl, zz_b3, zz_b2, zz_shl, zz_bt0, zz_bt1, pk_div, Nat.zero_add, Nat.add_zero, if_true, if_false, reduceIte, Nat.mul_zero, zz_or0, zz_inT, zz_inF, w2, y1, pos, k1, k2, mnM, z1]
      · rw [c1] at pos z1
        rw [Bool.toNat_true] at z1
        simp (disch := omega) only [fX12_treaty, fX12_treaty_b26, zz_lt, li_0, li_1, li_2, li_3, li_4, li_5, li_6, li_7, li_8, li_9, li_10, li_11, li_12, li_15, li_16, li_20, li_21, li_24, li_25, li_26, li_32, li_33, li_38, li_40, li_41, li_42, li_43, li_45, li_47, li_48, li_57, li_58, li_59, li_60, li_61, li_62, li_63, li_74, li_75, li_84, li_91, li_93, li_98, li_100, li_103, li_105, li_107, li_109, li_110, li_111, li_112, li_115, li_118, li_119, li_120, li_121, li_124, li_140, li_180, li_206, li_240, li_255, li_420, li_520, li_999, li_1000, li_1771, li_8240, li_9999, li_88200, li_1000000, li_2097151, li_31, nI_add, pk_mul, zz_sub, zz_an, nI_clamp, zz_leT, zz_leF, zz_ltT, zz_ltF, zz_eqF, zz_eqT, zz_m1, zz_m2, zz_m3, zz_m4, zz_m5, zz_m6, zz_ck, zz_bl, zz_b3, zz_b2, zz_shl, zz_bt0, zz_bt1, pk_div, Nat.zero_add, Nat.add_zero, if_true, if_false, reduceIte, Nat.mul_zero, zz_or0, zz_inT, zz_inF, w2, y1, pos, k1, k2, mnM, z1, Bool.true_eq_false]
theorem op_treaty {g : Nat → Nat → Nat} {IC IM : am_I} (hg : GW g) (hc : CS IC g) (h : MS IM g) (hR : g 0 0 = 0 ∨ rDu IC g) (LC LM : am_L) (e0 e1 : Int32) : am_du (fX11_treaty_t am_N 1900 e0 e1 IC LC) (fX12_treaty am_N 1900 e0 e1 IM LM) IC LC IM LM g := opn_treaty am_N 1900 am_N88 (by omega) hg hc h hR LC LM e0 e1
/-- who wins of whom; how many foes one wins of -/
def wnn (g : Nat → Nat → Nat) (m o : Nat) : Bool := (DU g (g 3 m) (g 3 o) (g 9 m) (g 10 m) (g 9 o) (g 10 o)).1.1
def tot (g : Nat → Nat → Nat) (s m Y : Nat) : Nat := sm (fun o => if g 1 o ≠ s ∧ 0 < g 9 o ∧ g 3 o < Y ∧ wnn g m o = true then 1 else 0) (g 0 0)
def par (g : Nat → Nat → Nat) (s m Y i : Nat) : Nat := sm (fun o => if g 1 o ≠ s ∧ 0 < g 9 o ∧ g 3 o = Y ∧ wnn g m o = true then 1 else 0) i
theorem sm_add (p q : Nat → Nat) : ∀ n, sm (fun k => p k + q k) n = sm p n + sm q n
  | 0 => rfl
  | n + 1 => by
    show sm (fun k => p k + q k) n + (p n + q n) = sm p n + p n + (sm q n + q n)
    rw [sm_add p q n]; omega
theorem sm_1 (p : Nat → Nat) : ∀ n, (∀ k, k < n → p k ≤ 1) → sm p n ≤ n
  | 0, _ => Nat.le_refl _
  | n + 1, h => by
    have := sm_1 p n (fun k hk => h k (by omega))
    have := h n (by omega)
    show sm p n + p n ≤ n + 1
    omega
theorem sm_z (p : Nat → Nat) : ∀ n, (∀ k, k < n → p k = 0) → sm p n = 0
  | 0, _ => rfl
  | n + 1, h => by
    show sm p n + p n = 0
    rw [sm_z p n (fun k hk => h k (by omega)), h n (by omega)]
theorem tot_s (g : Nat → Nat → Nat) (s m Y : Nat) : tot g s m (Y + 1) = tot g s m Y + par g s m Y (g 0 0) := by
  unfold tot par
  rw [← sm_add]
  refine sm_ext _ (fun o _ => ?_)
  by_cases c : g 1 o ≠ s ∧ 0 < g 9 o ∧ wnn g m o = true
  · obtain ⟨c1, c2, c3⟩ := c
    rcases Nat.lt_trichotomy (g 3 o) Y with z | z | z
    · rw [if_pos ⟨c1, c2, by omega, c3⟩, if_pos ⟨c1, c2, z, c3⟩, if_neg (fun q => by have := q.2.2.1; omega)]
    · rw [if_pos ⟨c1, c2, by omega, c3⟩, if_neg (fun q => by have := q.2.2.1; omega), if_pos ⟨c1, c2, z, c3⟩]
    · rw [if_neg (fun q => by have := q.2.2.1; omega), if_neg (fun q => by have := q.2.2.1; omega), if_neg (fun q => by have := q.2.2.1; omega)]
  · rw [if_neg (fun q => c ⟨q.1, q.2.1, q.2.2.2⟩), if_neg (fun q => c ⟨q.1, q.2.1, q.2.2.2⟩), if_neg (fun q => c ⟨q.1, q.2.1, q.2.2.2⟩)]
theorem tot_1 {g : Nat → Nat → Nat} (hg : GW g) (s m : Nat) : tot g s m 1 = 0 := sm_z _ _ (fun o ho => if_neg (fun q => by have := (hg.2.2.2.2.2.1 o ho).2.2.1; have := q.2.2.1; omega))
theorem tot_le {g : Nat → Nat → Nat} (hg : GW g) (s m Y : Nat) : tot g s m Y ≤ 8 := by
  have := sm_1 (fun o => if g 1 o ≠ s ∧ 0 < g 9 o ∧ g 3 o < Y ∧ wnn g m o = true then 1 else 0) (g 0 0) (fun k _ => by show (if _ then 1 else 0) ≤ 1; split <;> omega)
  have := hg.1
  unfold tot
  omega
theorem par_le (g : Nat → Nat → Nat) (s m Y i : Nat) : par g s m Y i ≤ i := sm_1 _ i (fun k _ => by show (if _ then 1 else 0) ≤ 1; split <;> omega)
theorem pm_can {g : Nat → Nat → Nat} (hg : GW g) (n d : Nat) {I : am_I} (h : MS I g) (L : am_L) {m o : Nat} (hm : m < g 0 0) (ho : o < g 0 0) (hne : m ≠ o) (h9 : 1 ≤ g 9 m) : fX12_canDuel n d (nI m) (nI o) I L = some (nI (decide (0 < g 9 o)).toNat, I, L) := by
  have gm := hg.1
  have r1 := h.2.2.2.2.2.2.2.2.2.2.2.2.2.1 m hm
  have r2 := h.2.2.2.2.2.2.2.2.2.2.2.2.2.1 o ho
  have rr1 := hg.2.2.2.2.2.2.2.2.1 m hm
  have rr2 := hg.2.2.2.2.2.2.2.2.1 o ho
  by_cases c2 : 0 < g 9 o
  · rw [decide_eq_true c2]
    simp (disch := omega) only [fX12_canDuel, pm_man1 hg h n d L hm, pm_man1 hg h n d L ho, zz_lt, li_0, li_1, li_2, li_3, li_4, li_5, li_6, li_7, li_8, li_9, li_10, li_11, li_12, li_15, li_16, li_20, li_21, li_24, li_25, li_26, li_32, li_33, li_38, li_40, li_41, li_42, li_43, li_45, li_47, li_48, li_57, li_58, li_59, li_60, li_61, li_62, li_63, li_74, li_75, li_84, li_91, li_93, li_98, li_100, li_103, li_105, li_107, li_109, li_110, li_111, li_112, li_115, li_118, li_119, li_120, li_121, li_124, li_140, li_180, li_206, li_240, li_255, li_420, li_520, li_999, li_1000, li_1771, li_8240, li_9999, li_88200, li_1000000, li_2097151, li_31, nI_add, pk_mul, zz_sub, zz_an, nI_clamp, zz_leT, zz_leF, zz_ltT, zz_ltF, zz_eqF, zz_eqT, zz_m1, zz_m2, zz_m3, zz_m4, zz_m5, zz_m6, zz_ck, zz_bl, zz_b3, zz_b2, zz_shl, zz_bt0, zz_bt1, pk_div, Nat.zero_add, Nat.add_zero, if_true, if_false, reduceIte, Nat.mul_zero, zz_or0, zz_inT, zz_inF, r1, r2, Bool.toNat_true]
  · rw [decide_eq_false c2]
    simp (disch := omega) only [fX12_canDuel, pm_man1 hg h n d L hm, pm_man1 hg h n d L ho, zz_lt, li_0, li_1, li_2, li_3, li_4, li_5, li_6, li_7, li_8, li_9, li_10, li_11, li_12, li_15, li_16, li_20, li_21, li_24, li_25, li_26, li_32, li_33, li_38, li_40, li_41, li_42, li_43, li_45, li_47, li_48, li_57, li_58, li_59, li_60, li_61, li_62, li_63, li_74, li_75, li_84, li_91, li_93, li_98, li_100, li_103, li_105, li_107, li_109, li_110, li_111, li_112, li_115, li_118, li_119, li_120, li_121, li_124, li_140, li_180, li_206, li_240, li_255, li_420, li_520, li_999, li_1000, li_1771, li_8240, li_9999, li_88200, li_1000000, li_2097151, li_31, nI_add, pk_mul, zz_sub, zz_an, nI_clamp, zz_leT, zz_leF, zz_ltT, zz_ltF, zz_eqF, zz_eqT, zz_m1, zz_m2, zz_m3, zz_m4, zz_m5, zz_m6, zz_ck, zz_bl, zz_b3, zz_b2, zz_shl, zz_bt0, zz_bt1, pk_div, Nat.zero_add, Nat.add_zero, if_true, if_false, reduceIte, Nat.mul_zero, zz_or0, zz_inT, zz_inF, r1, r2, Bool.toNat_false]
theorem pm_winsL {g : Nat → Nat → Nat} (hg : GW g) (n d : Nat) (hn : 88200 < n) (hd : 150 < d) (L : am_L) {m : Nat} (hm : m < g 0 0) (h9 : 1 ≤ g 9 m) : ∀ (j i F : Nat) (I : am_I), i + j = g 0 0 → j < F → MS I g → ∃ I', fX12_wins_b4 n d F (nI m) (nI (sm (fun o => if g 1 o ≠ g 1 m ∧ 0 < g 9 o ∧ wnn g m o = true then 1 else 0) i)) (nI i) I L = some (nI (sm (fun o => if g 1 o ≠ g 1 m ∧ 0 < g 9 o ∧ wnn g m o = true then 1 else 0) (g 0 0)), I', L) ∧ am_ag scrM I I'
  | _, _, 0, _, _, f, _ => by omega
  | 0, i, F + 1, I, e, f, h => by
    have gm := hg.1
    have e1 : i = g 0 0 := by omega
    subst e1
    have hmn := h.1
    exact ⟨I, by simp (disch := omega) only [fX12_wins_b4, fX12_wins_b4w, zz_lt, li_0, li_1, li_2, li_3, li_4, li_5, li_6, li_7, li_8, li_9, li_10, li_11, li_12, li_15, li_16, li_20, li_21, li_24, li_25, li_26, li_32, li_33, li_38, li_40, li_41, li_42, li_43, li_45, li_47, li_48, li_57, li_58, li_59, li_60, li_61, li_62, li_63, li_74, li_75, li_84, li_91, li_93, li_98, li_100, li_103, li_105, li_107, li_109, li_110, li_111, li_112, li_115, li_118, li_119, li_120, li_121, li_124, li_140, li_180, li_206, li_240, li_255, li_420, li_520, li_999, li_1000, li_1771, li_8240, li_9999, li_88200, li_1000000, li_2097151, li_31, nI_add, pk_mul, zz_sub, zz_an, nI_clamp, zz_leT, zz_leF, zz_ltT, zz_ltF, zz_eqF, zz_eqT, zz_m1, zz_m2, zz_m3, zz_m4, zz_m5, zz_m6, zz_ck, zz_bl, zz_b3, zz_b2, zz_shl, zz_bt0, zz_bt1, pk_div, Nat.zero_add, Nat.add_zero, if_true, if_false, reduceIte, Nat.mul_zero, zz_or0, zz_inT, zz_inF, hmn], ag_rf⟩
  | j + 1, i, F + 1, I, e, f, h => by
    have gm := hg.1
    have hmn := h.1
    have i1 : i < g 0 0 := by omega
    have s1 := pm_side hg h n d L i1
    have s2 := pm_side hg h n d L hm
    have b1 := hg.2.2.2.2.2.1 i i1
    have b2 := hg.2.2.2.2.2.1 m hm
    have smle := sm_1 (fun o => if g 1 o ≠ g 1 m ∧ 0 < g 9 o ∧ wnn g m o = true then 1 else 0) i (fun k _ => by show (if _ then 1 else 0) ≤ 1; split <;> omega)
    obtain ⟨c0, hc0⟩ : ∃ c0, c0 = sm (fun o => if g 1 o ≠ g 1 m ∧ 0 < g 9 o ∧ wnn g m o = true then 1 else 0) i := ⟨_, rfl⟩
    have nx : sm (fun o => if g 1 o ≠ g 1 m ∧ 0 < g 9 o ∧ wnn g m o = true then 1 else 0) (i + 1) = c0 + (if g 1 i ≠ g 1 m ∧ 0 < g 9 i ∧ wnn g m i = true then 1 else 0) := by rw [hc0]; rfl
    rw [← hc0] at smle
    by_cases c1 : g 1 i = g 1 m
    · obtain ⟨I2, v1, v2⟩ := pm_winsL hg n d hn hd L hm h9 j (i + 1) F I (by omega) (by omega) h
      refine ⟨I2, ?_, v2⟩
      rw [nx, if_neg (fun q => q.1 c1)] at v1
      rw [← v1, ← hc0]
      simp (disch := omega) only [fX12_wins_b4, fX12_wins_b4w, fX12_wins_b49, fX12_wins_b50, zz_lt, li_0, li_1, li_2, li_3, li_4, li_5, li_6, li_7, li_8, li_9, li_10, li_11, li_12, li_15, li_16, li_20, li_21, li_24, li_25, li_26, li_32, li_33, li_38, li_40, li_41, li_42, li_43, li_45, li_47, li_48, li_57, li_58, li_59, li_60, li_61, li_62, li_63, li_74, li_75, li_84, li_91, li_93, li_98, li_100, li_103, li_105, li_107, li_109, li_110, li_111, li_112, li_115, li_118, li_119, li_120, li_121, li_124, li_140, li_180, li_206, li_240, li_255, li_420, li_520, li_999, li_1000, li_1771, li_8240, li_9999, li_88200, li_1000000, li_2097151, li_31, nI_add, pk_mul, zz_sub, zz_an, nI_clamp, zz_leT, zz_leF, zz_ltT, zz_ltF, zz_eqF, zz_eqT, zz_m1, zz_m2, zz_m3, zz_m4, zz_m5, zz_m6, zz_ck, zz_bl, zz_b3, zz_b2, zz_shl, zz_bt0, zz_bt1, pk_div, Nat.zero_add, Nat.add_zero, if_true, if_false, reduceIte, Nat.mul_zero, zz_or0, zz_inT, zz_inF, hmn, s1, s2]
    · have cn := pm_can hg n d h L hm i1 (fun z => c1 (by rw [z])) h9
      by_cases c2 : 0 < g 9 i
      · rw [decide_eq_true c2] at cn
        obtain ⟨I1, w1, w2, _⟩ := pm_dw hg n d hn hd h L (e := 0) hm i1 h9 c2 (Nat.zero_le _) (Nat.zero_le _)
        rw [Nat.sub_zero, Nat.sub_zero] at w1
        have dn := DU_n g (g 3 m) (g 3 i) (g 9 m) (g 10 m) (g 9 i) (g 10 i)
        have wd : wnn g m i = (DU g (g 3 m) (g 3 i) (g 9 m) (g 10 m) (g 9 i) (g 10 i)).1.1 := rfl
        generalize DU g (g 3 m) (g 3 i) (g 9 m) (g 10 m) (g 9 i) (g 10 i) = V at w1 dn wd
        have pos := svd_pos (v := V.1) dn.1.1 (by omega)
        rw [← wd] at pos
        obtain ⟨I2, v1, v2⟩ := pm_winsL hg n d hn hd L hm h9 j (i + 1) F I1 (by omega) (by omega) (MS_keep h w2)
        refine ⟨I2, ?_, ag_tr w2 v2⟩
        rw [nx] at v1
        rw [← v1, ← hc0]
        cases c3 : wnn g m i
        · rw [c3] at pos
          rw [if_neg (fun q => Bool.noConfusion q.2.2)]
          simp (disch := omega) only [fX12_wins_b4, fX12_wins_b4w, fX12_wins_b49, fX12_wins_b50, zz_lt, li_0, li_1, li_2, li_3, li_4, li_5, li_6, li_7, li_8, li_9, li_10, li_11, li_12, li_15, li_16, li_20, li_21, li_24, li_25, li_26, li_32, li_33, li_38, li_40, li_41, li_42, li_43, li_45, li_47, li_48, li_57, li_58, li_59, li_60, li_61, li_62, li_63, li_74, li_75, li_84, li_91, li_93, li_98, li_100, li_103, li_105, li_107, li_109, li_110, li_111, li_112, li_115, li_118, li_119, li_120, li_121, li_124, li_140, li_180, li_206, li_240, li_255, li_420, li_520, li_999, li_1000, li_1771, li_8240, li_9999, li_88200, li_1000000, li_2097151, li_31, nI_add, pk_mul, zz_sub, zz_an, nI_clamp, zz_leT, zz_leF, zz_ltT, zz_ltF, zz_eqF, zz_eqT, zz_m1, zz_m2, zz_m3, zz_m4, zz_m5, zz_m6, zz_ck, zz_bl, zz_b3, zz_b2, zz_shl, zz_bt0, zz_bt1, pk_div, Nat.zero_add, Nat.add_zero, if_true, if_false, reduceIte, Nat.mul_zero, zz_or0, zz_inT, zz_inF, hmn, s1, s2, cn, Bool.toNat_true, w1, pos]
        · rw [c3] at pos
          rw [if_pos ⟨c1, c2, rfl⟩]
          simp (disch := omega) only [fX12_wins_b4, fX12_wins_b4w, fX12_wins_b49, fX12_wins_b50, zz_lt, li_0, li_1, li_2, li_3, li_4, li_5, li_6, li_7, li_8, li_9, li_10, li_11, li_12, li_15, li_16, li_20, li_21, li_24, li_25, li_26, li_32, li_33, li_38, li_40, li_41, li_42, li_43, li_45, li_47, li_48, li_57, li_58, li_59, li_60, li_61, li_62, li_63, li_74, li_75, li_84, li_91, li_93, li_98, li_100, li_103, li_105, li_107, li_109, li_110, li_111, li_112, li_115, li_118, li_119, li_120, li_121, li_124, li_140, li_180, li_206, li_240, li_255, li_420, li_520, li_999, li_1000, li_1771, li_8240, li_9999, li_88200, li_1000000, li_2097151, li_31, nI_add, pk_mul, zz_sub, zz_an, nI_clamp, zz_leT, zz_leF, zz_ltT, zz_ltF, zz_eqF, zz_eqT, zz_m1, zz_m2, zz_m3, zz_m4, zz_m5, zz_m6, zz_ck, zz_bl, zz_b3, zz_b2, zz_shl, zz_bt0, zz_bt1, pk_div, Nat.zero_add, Nat.add_zero, if_true, if_false, reduceIte, Nat.mul_zero, zz_or0, zz_inT, zz_inF, hmn, s1, s2, cn, Bool.toNat_true, w1, pos, Bool.true_eq_false]
      · rw [decide_eq_false c2] at cn
        obtain ⟨I2, v1, v2⟩ := pm_winsL hg n d hn hd L hm h9 j (i + 1) F I (by omega) (by omega) h
        refine ⟨I2, ?_, v2⟩
        rw [nx, if_neg (fun q => c2 q.2.1)] at v1
        rw [← v1, ← hc0]
        simp (disch := omega) only [fX12_wins_b4, fX12_wins_b4w, fX12_wins_b49, fX12_wins_b50, zz_lt, li_0, li_1, li_2, li_3, li_4, li_5, li_6, li_7, li_8, li_9, li_10, li_11, li_12, li_15, li_16, li_20, li_21, li_24, li_25, li_26, li_32, li_33, li_38, li_40, li_41, li_42, li_43, li_45, li_47, li_48, li_57, li_58, li_59, li_60, li_61, li_62, li_63, li_74, li_75, li_84, li_91, li_93, li_98, li_100, li_103, li_105, li_107, li_109, li_110, li_111, li_112, li_115, li_118, li_119, li_120, li_121, li_124, li_140, li_180, li_206, li_240, li_255, li_420, li_520, li_999, li_1000, li_1771, li_8240, li_9999, li_88200, li_1000000, li_2097151, li_31, nI_add, pk_mul, zz_sub, zz_an, nI_clamp, zz_leT, zz_leF, zz_ltT, zz_ltF, zz_eqF, zz_eqT, zz_m1, zz_m2, zz_m3, zz_m4, zz_m5, zz_m6, zz_ck, zz_bl, zz_b3, zz_b2, zz_shl, zz_bt0, zz_bt1, pk_div, Nat.zero_add, Nat.add_zero, if_true, if_false, reduceIte, Nat.mul_zero, zz_or0, zz_inT, zz_inF, hmn, s1, s2, cn, Bool.toNat_false]
theorem pm_wins {g : Nat → Nat → Nat} (hg : GW g) (n d : Nat) (hn : 88200 < n) (hd : 150 < d) {I : am_I} (h : MS I g) (L : am_L) {m : Nat} (hm : m < g 0 0) (h9 : 1 ≤ g 9 m) : ∃ I', fX12_wins n d (nI m) I L = some (nI (tot g (g 1 m) m 6), I', L) ∧ am_ag scrM I I' := by
  have gm := hg.1
  obtain ⟨I', w1, w2⟩ := pm_winsL hg n d hn hd L hm h9 (g 0 0) 0 n I (by omega) (by omega) h
  refine ⟨I', ?_, w2⟩
  have e : sm (fun o => if g 1 o ≠ g 1 m ∧ 0 < g 9 o ∧ wnn g m o = true then 1 else 0) (g 0 0) = tot g (g 1 m) m 6 := by
    unfold tot
    refine sm_ext _ (fun o ho => ?_)
    have := (hg.2.2.2.2.2.1 o ho).2.2.2.1
    by_cases c : g 1 o ≠ g 1 m ∧ 0 < g 9 o ∧ wnn g m o = true
    · rw [if_pos c, if_pos ⟨c.1, c.2.1, by omega, c.2.2⟩]
    · rw [if_neg c, if_neg (fun q => c ⟨q.1, q.2.1, q.2.2.2⟩)]
  rw [← e, ← w1]
  simp (disch := omega) only [fX12_wins, zz_lt, li_0, li_1, li_2, li_3, li_4, li_5, li_6, li_7, li_8, li_9, li_10, li_11, li_12, li_15, li_16, li_20, li_21, li_24, li_25, li_26, li_32, li_33, li_38, li_40, li_41, li_42, li_43, li_45, li_47, li_48, li_57, li_58, li_59, li_60, li_61, li_62, li_63, li_74, li_75, li_84, li_91, li_93, li_98, li_100, li_103, li_105, li_107, li_109, li_110, li_111, li_112, li_115, li_118, li_119, li_120, li_121, li_124, li_140, li_180, li_206, li_240, li_255, li_420, li_520, li_999, li_1000, li_1771, li_8240, li_9999, li_88200, li_1000000, li_2097151, li_31, nI_add, pk_mul, zz_sub, zz_an, nI_clamp, zz_leT, zz_leF, zz_ltT, zz_ltF, zz_eqF, zz_eqT, zz_m1, zz_m2, zz_m3, zz_m4, zz_m5, zz_m6, zz_ck, zz_bl, zz_b3, zz_b2, zz_shl, zz_bt0, zz_bt1, pk_div, Nat.zero_add, Nat.add_zero, if_true, if_false, reduceIte, Nat.mul_zero, zz_or0, zz_inT, zz_inF]
  rfl
