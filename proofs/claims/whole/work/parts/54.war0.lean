/-! PURE: fault and text of a war, on both sides. -/
theorem rw_both {n : Nat} {t : Nat → Nat} (hG : GT n t) (f d : Nat) (hf : 1000 < f) (LC LM : am_L) : ∀ (F G p a c : Nat) (I J : am_I) (g : Nat → Nat → Nat) (told : Nat), n - p < F → n - p + 1 < G → a ≤ n → nb n t a = p → c ≤ p → TC I n t → TM J n t → GD g → DC I g told → DM J g → told ≤ 1 → ∃ (r : Int32) (I' J' : am_I), fX10_read_b38 f d F (nI c) (cq I p) LC = some (r, I', LC) ∧ fX12_readWar_b48 f d G (nI told) (nI 1) (mp J a (-nI 1)) LM = some (r, J', LM) ∧ am_ag scrC I I' ∧ am_ag scrM J J' ∧ (r = -nI 1 → ∃ (g' : Nat → Nat → Nat) (told' : Nat), GD g' ∧ DC I' g' told' ∧ DM J' g' ∧ whB g' = true)
  | 0, _, _, _, _, _, _, _, _, fu, _, _, _, _, _, _, _, _, _, _ => by omega
  | _, 0, _, _, _, _, _, _, _, _, fu, _, _, _, _, _, _, _, _, _ => by omega
  | _, 1, _, _, _, _, _, _, _, _, fu, _, _, _, _, _, _, _, _, _ => by omega
  | F + 1, G + 2, p, a, c, I, J, g, told, fu, fg, ha, hp, hc, hI, hJ, hg, hC, hM, ht => by
    have gn := hG.1
    have hpn : p ≤ n := by rw [← hp]; exact nb_le ha
    have cl : clO (fX10_readClause f d (cq I p) LC) (fX12_readWar_b48 f d (G + 1 + 1) (nI told) (nI 1) (mp J a (-nI 1)) LM) n t f d LC LM (G + 1) I J p := by
      by_cases c1 : bx n t p = 110 ∧ g 0 0 < 8
      · exact cl_M hG f d hf hI hJ hg hC hM ht LC LM ha hp c1.1 c1.2 G
      · by_cases c2 : bx n t p = 112 ∧ g 0 1 < 6
        · exact cl_O hG f d hf hI hJ hg hC hM ht LC LM ha hp c2.1 c2.2 G
        · by_cases c3 : bx n t p = 120 ∧ told = 0
          · exact cl_H hG f d hf hI hJ hg hC hM ht LC LM ha hp c3.1 c3.2 G
          · exact cl_no hG f d hf hI hJ hg hC hM ht LC LM ha hp ⟨c1, c2, c3⟩ G
    obtain ⟨I1, J1, a1, a2, a3⟩ := cl
    rcases a3 with ⟨p1, b1, b2, b3⟩ | ⟨p1, g1, told1, b1, b2, b3, b4, b5, b6, b7, b8, b9, b10⟩
    · have h4 := cq_4 I1 p1
      refine ⟨nI p1, cq I1 p1, J1, ?_, b3, ag_tr a1 (ag_cq _ _), a2, fun z => by rw [zz_m1 (by omega)] at z; exact z.elim⟩
      simp (disch := omega) only [fX10_read_b38, fX10_read_b38w, zz_lt, li_0, li_1, li_2, li_3, li_4, li_5, li_6, li_7, li_8, li_9, li_10, li_11, li_12, li_15, li_16, li_20, li_21, li_24, li_25, li_26, li_32, li_33, li_38, li_40, li_41, li_42, li_43, li_45, li_47, li_48, li_57, li_58, li_59, li_60, li_61, li_62, li_63, li_74, li_75, li_84, li_91, li_93, li_98, li_100, li_103, li_105, li_107, li_109, li_110, li_111, li_112, li_115, li_118, li_119, li_120, li_121, li_124, li_140, li_180, li_206, li_240, li_255, li_420, li_520, li_999, li_1000, li_1771, li_8240, li_9999, li_88200, li_1000000, li_2097151, li_31, nI_add, pk_mul, zz_sub, zz_an, nI_clamp, zz_leT, zz_leF, zz_ltT, zz_ltF, zz_eqF, zz_eqT, zz_m1, zz_m2, zz_m3, zz_m4, zz_m5, zz_m6, zz_ck, zz_bl, zz_b3, zz_b2, zz_shl, zz_bt0, zz_bt1, pk_div, Nat.zero_add, Nat.add_zero, if_true, if_false, reduceIte, Nat.mul_zero, zz_or0, zz_inT, zz_inF, b1, h4]
    · have h4 := cq_4 I1 p1
      have t1 := (TC_cq b4 p1).1
      rcases b10 with ⟨e1, e2, e3⟩ | ⟨e1, e3⟩
      · have go := pc_go hG f d (by omega) b4 LC (p := p1) (by omega)
        have ge := nb_ge n t (p1 + 1)
        obtain ⟨r, I2, J2, z1, z2, z3, z4, z5⟩ := rw_both hG f d hf LC LM F (G + 1) (nb n t (p1 + 1)) (p1 + 1) (c + 1) I1 J1 g1 told1 (by omega) (by omega) (by omega) rfl (by omega) b4 b5 b6 b7 b8 b9
        refine ⟨r, I2, J2, ?_, by rw [e3]; exact z2, ag_tr a1 z3, ag_tr a2 z4, z5⟩
        rw [← z1]
        simp (disch := omega) only [fX10_read_b38, fX10_read_b38w, zz_lt, li_0, li_1, li_2, li_3, li_4, li_5, li_6, li_7, li_8, li_9, li_10, li_11, li_12, li_15, li_16, li_20, li_21, li_24, li_25, li_26, li_32, li_33, li_38, li_40, li_41, li_42, li_43, li_45, li_47, li_48, li_57, li_58, li_59, li_60, li_61, li_62, li_63, li_74, li_75, li_84, li_91, li_93, li_98, li_100, li_103, li_105, li_107, li_109, li_110, li_111, li_112, li_115, li_118, li_119, li_120, li_121, li_124, li_140, li_180, li_206, li_240, li_255, li_420, li_520, li_999, li_1000, li_1771, li_8240, li_9999, li_88200, li_1000000, li_2097151, li_31, nI_add, pk_mul, zz_sub, zz_an, nI_clamp, zz_leT, zz_leF, zz_ltT, zz_ltF, zz_eqF, zz_eqT, zz_m1, zz_m2, zz_m3, zz_m4, zz_m5, zz_m6, zz_ck, zz_bl, zz_b3, zz_b2, zz_shl, zz_bt0, zz_bt1, pk_div, Nat.zero_add, Nat.add_zero, if_true, if_false, reduceIte, Nat.mul_zero, zz_or0, zz_inT, zz_inF, b1, h4, t1, go]
      · subst e1
        have ee := eW_end hG f d (by omega) b5 b6 b8 LM (nI told1) G
        have wh := pc_wh b6 (DC_cq b7 p1) f d LC
        cases cw : whB g1
        · rw [cw, if_neg (by decide)] at ee
          rw [cw] at wh
          refine ⟨nI p1, cq I1 p1, mp J1 p1 (nI p1), ?_, by rw [e3]; exact ee, ag_tr a1 (ag_cq _ _), ag_tr a2 (ag_mp _ _ _), fun z => by rw [zz_m1 (by omega)] at z; exact z.elim⟩
          simp (disch := omega) only [fX10_read_b38, fX10_read_b38w, zz_lt, li_0, li_1, li_2, li_3, li_4, li_5, li_6, li_7, li_8, li_9, li_10, li_11, li_12, li_15, li_16, li_20, li_21, li_24, li_25, li_26, li_32, li_33, li_38, li_40, li_41, li_42, li_43, li_45, li_47, li_48, li_57, li_58, li_59, li_60, li_61, li_62, li_63, li_74, li_75, li_84, li_91, li_93, li_98, li_100, li_103, li_105, li_107, li_109, li_110, li_111, li_112, li_115, li_118, li_119, li_120, li_121, li_124, li_140, li_180, li_206, li_240, li_255, li_420, li_520, li_999, li_1000, li_1771, li_8240, li_9999, li_88200, li_1000000, li_2097151, li_31, nI_add, pk_mul, zz_sub, zz_an, nI_clamp, zz_leT, zz_leF, zz_ltT, zz_ltF, zz_eqF, zz_eqT, zz_m1, zz_m2, zz_m3, zz_m4, zz_m5, zz_m6, zz_ck, zz_bl, zz_b3, zz_b2, zz_shl, zz_bt0, zz_bt1, pk_div, Nat.zero_add, Nat.add_zero, if_true, if_false, reduceIte, Nat.mul_zero, zz_or0, zz_inT, zz_inF, b1, h4, t1, wh, Bool.toNat_false]
        · rw [cw, if_pos rfl] at ee
          rw [cw] at wh
          refine ⟨-nI 1, cq I1 p1, mp J1 p1 (-nI 1), ?_, by rw [e3]; exact ee, ag_tr a1 (ag_cq _ _), ag_tr a2 (ag_mp _ _ _), fun _ => ⟨g1, told1, b6, DC_cq b7 p1, DM_mp b8 _ _, cw⟩⟩
          simp (disch := omega) only [fX10_read_b38, fX10_read_b38w, zz_lt, li_0, li_1, li_2, li_3, li_4, li_5, li_6, li_7, li_8, li_9, li_10, li_11, li_12, li_15, li_16, li_20, li_21, li_24, li_25, li_26, li_32, li_33, li_38, li_40, li_41, li_42, li_43, li_45, li_47, li_48, li_57, li_58, li_59, li_60, li_61, li_62, li_63, li_74, li_75, li_84, li_91, li_93, li_98, li_100, li_103, li_105, li_107, li_109, li_110, li_111, li_112, li_115, li_118, li_119, li_120, li_121, li_124, li_140, li_180, li_206, li_240, li_255, li_420, li_520, li_999, li_1000, li_1771, li_8240, li_9999, li_88200, li_1000000, li_2097151, li_31, nI_add, pk_mul, zz_sub, zz_an, nI_clamp, zz_leT, zz_leF, zz_ltT, zz_ltF, zz_eqF, zz_eqT, zz_m1, zz_m2, zz_m3, zz_m4, zz_m5, zz_m6, zz_ck, zz_bl, zz_b3, zz_b2, zz_shl, zz_bt0, zz_bt1, pk_div, Nat.zero_add, Nat.add_zero, if_true, if_false, reduceIte, Nat.mul_zero, zz_or0, zz_inT, zz_inF, b1, h4, t1, wh, Bool.toNat_true]
/-- the empty draft -/
def gd0 : Nat → Nat → Nat := fun p q => if p = 0 ∧ q = 2 then 6 else 0
theorem gd0_w : GD gd0 := ⟨by decide, by decide, by decide, by decide, fun m hm => by have : gd0 0 0 = 0 := rfl; omega, fun m hm => by have : gd0 0 1 = 0 := rfl; omega⟩
theorem pc_clL (n d : Nat) (L : am_L) : ∀ (j i F : Nat) (I : am_I), i + j = 21 → j < F → (∀ s, s < i → I 23 s = nI 0) → ∃ I', fX9_clear_draft_b41 n d F (nI i) I L = some (I', L) ∧ (∀ s, s < 21 → I' 23 s = nI 0) ∧ (∀ k, k ≠ 23 → I' k = I k)
  | _, _, 0, _, _, f, _ => by omega
  | 0, i, F + 1, I, e, f, h => by
    exact ⟨I, by simp (disch := omega) only [fX9_clear_draft_b41, fX9_clear_draft_b41w, zz_lt, li_0, li_1, li_2, li_3, li_4, li_5, li_6, li_7, li_8, li_9, li_10, li_11, li_12, li_15, li_16, li_20, li_21, li_24, li_25, li_26, li_32, li_33, li_38, li_40, li_41, li_42, li_43, li_45, li_47, li_48, li_57, li_58, li_59, li_60, li_61, li_62, li_63, li_74, li_75, li_84, li_91, li_93, li_98, li_100, li_103, li_105, li_107, li_109, li_110, li_111, li_112, li_115, li_118, li_119, li_120, li_121, li_124, li_140, li_180, li_206, li_240, li_255, li_420, li_520, li_999, li_1000, li_1771, li_8240, li_9999, li_88200, li_1000000, li_2097151, li_31, nI_add, pk_mul, zz_sub, zz_an, nI_clamp, zz_leT, zz_leF, zz_ltT, zz_ltF, zz_eqF, zz_eqT, zz_m1, zz_m2, zz_m3, zz_m4, zz_m5, zz_m6, zz_ck, zz_bl, zz_b3, zz_b2, zz_shl, zz_bt0, zz_bt1, pk_div, Nat.zero_add, Nat.add_zero, if_true, if_false, reduceIte, Nat.mul_zero, zz_or0, zz_inT, zz_inF], fun s hs => h s (by omega), fun _ _ => rfl⟩
  | j + 1, i, F + 1, I, e, f, h => by
    obtain ⟨I', w1, w2, w3⟩ := pc_clL n d L j (i + 1) F (am_up I 23 i (nI 0)) (by omega) (by omega) (fun s hs => by
      by_cases c : s = i
      · rw [up_s c]
      · rw [up_n c]; exact h s (by omega))
    refine ⟨I', ?_, w2, fun k hk => by rw [w3 k hk, am_up_ne hk]⟩
    rw [← w1]
    simp (disch := omega) only [fX9_clear_draft_b41, fX9_clear_draft_b41w, zz_lt, li_0, li_1, li_2, li_3, li_4, li_5, li_6, li_7, li_8, li_9, li_10, li_11, li_12, li_15, li_16, li_20, li_21, li_24, li_25, li_26, li_32, li_33, li_38, li_40, li_41, li_42, li_43, li_45, li_47, li_48, li_57, li_58, li_59, li_60, li_61, li_62, li_63, li_74, li_75, li_84, li_91, li_93, li_98, li_100, li_103, li_105, li_107, li_109, li_110, li_111, li_112, li_115, li_118, li_119, li_120, li_121, li_124, li_140, li_180, li_206, li_240, li_255, li_420, li_520, li_999, li_1000, li_1771, li_8240, li_9999, li_88200, li_1000000, li_2097151, li_31, nI_add, pk_mul, zz_sub, zz_an, nI_clamp, zz_leT, zz_leF, zz_ltT, zz_ltF, zz_eqF, zz_eqT, zz_m1, zz_m2, zz_m3, zz_m4, zz_m5, zz_m6, zz_ck, zz_bl, zz_b3, zz_b2, zz_shl, zz_bt0, zz_bt1, pk_div, Nat.zero_add, Nat.add_zero, if_true, if_false, reduceIte, Nat.mul_zero, zz_or0, zz_inT, zz_inF]
theorem war_read {n : Nat} {t : Nat → Nat} (hG : GT n t) (f d : Nat) (hf : 1000 < f) (LC LM : am_L) {I J : am_I} (hI : TC I n t) (hJ : TM J n t) : ∃ (r : Int32) (I' J' : am_I), fX10_read f d I LC = some (r, I', LC) ∧ fX12_readWar f d J LM = some (r, J', LM) ∧ am_ag scrC I I' ∧ am_ag scrM J J' ∧ (r = -nI 1 → ∃ (g' : Nat → Nat → Nat) (told' : Nat), GD g' ∧ DC I' g' told' ∧ DM J' g' ∧ whB g' = true) := by
  have gn := hG.1
  -- the class clears its draft
  obtain ⟨I0, hI0⟩ : ∃ I0, I0 = am_up (am_up (am_up (am_up (am_up (am_up (am_up I 14 0 (nI 0)) 14 1 (nI 0)) 14 2 (nI 6)) 14 3 (nI 0)) 14 4 (nI 1)) 24 0 (nI 0)) 24 1 (nI 0) := ⟨_, rfl⟩
  obtain ⟨I1, w1, w2, w3⟩ := pc_clL f d LC 21 0 f I0 (by omega) (by omega) (fun s hs => by omega)
  have cW8 : am_cW 8 = nI 6 := cW_t 8 (by omega)
  have cW9 : am_cW 9 = nI 0 := cW_t 9 (by omega)
  have cl : fX9_clear_draft f d (nI 6) (nI 0) I LC = some (I1, LC) := by
    have w1' := w1
    rw [hI0] at w1'
    simp (disch := omega) only [fX9_clear_draft, zz_lt, li_0, li_1, li_2, li_3, li_4, li_5, li_6, li_7, li_8, li_9, li_10, li_11, li_12, li_15, li_16, li_20, li_21, li_24, li_25, li_26, li_32, li_33, li_38, li_40, li_41, li_42, li_43, li_45, li_47, li_48, li_57, li_58, li_59, li_60, li_61, li_62, li_63, li_74, li_75, li_84, li_91, li_93, li_98, li_100, li_103, li_105, li_107, li_109, li_110, li_111, li_112, li_115, li_118, li_119, li_120, li_121, li_124, li_140, li_180, li_206, li_240, li_255, li_420, li_520, li_999, li_1000, li_1771, li_8240, li_9999, li_88200, li_1000000, li_2097151, li_31, nI_add, pk_mul, zz_sub, zz_an, nI_clamp, zz_leT, zz_leF, zz_ltT, zz_ltF, zz_eqF, zz_eqT, zz_m1, zz_m2, zz_m3, zz_m4, zz_m5, zz_m6, zz_ck, zz_bl, zz_b3, zz_b2, zz_shl, zz_bt0, zz_bt1, pk_div, Nat.zero_add, Nat.add_zero, if_true, if_false, reduceIte, Nat.mul_zero, zz_or0, zz_inT, zz_inF, w1']
  have c14 : ∀ j, I1 14 j = I0 14 j := fun j => by rw [w3 14 (by omega)]
  have tC : TC (am_up I1 25 5 (nI 0)) n t := by
    have e : ∀ k, k ≠ 14 → k ≠ 23 → k ≠ 24 → I1 k = I k := fun k a b c => by
      rw [w3 k b, hI0, am_up_ne c, am_up_ne c, am_up_ne a, am_up_ne a, am_up_ne a, am_up_ne a, am_up_ne a]
    unfold TC at *
    rw [am_up_ne (by omega), am_up_ne (by omega), e 1 (by omega) (by omega) (by omega), e 2 (by omega) (by omega) (by omega)]
    exact hI
  have dC : DC (am_up I1 25 5 (nI 0)) gd0 0 := by
    refine ⟨?_, ?_, ?_, ?_, ?_, up_s rfl, fun m hm => ?_, fun m hm => ?_, fun m hm => ?_, fun m hm => ?_, fun m hm => ?_, fun m hm => ?_, fun m hm => ?_, fun m hm => ?_, fun s hs => ?_, ?_, ?_⟩
    · rw [am_up_ne (by omega), c14, hI0]; simp (disch := omega) only [am_up_ne, up_n, up_s]; rfl
    · rw [am_up_ne (by omega), c14, hI0]; simp (disch := omega) only [am_up_ne, up_n, up_s]; rfl
    · rw [am_up_ne (by omega), c14, hI0]; simp (disch := omega) only [am_up_ne, up_n, up_s]; rfl
    · rw [am_up_ne (by omega), c14, hI0]; simp (disch := omega) only [am_up_ne, up_n, up_s]; rfl
    · rw [am_up_ne (by omega), c14, hI0]; simp (disch := omega) only [am_up_ne, up_n, up_s]; rfl
    all_goals first | (have z : gd0 0 0 = 0 := rfl; rw [z] at hm; omega) | (have z : gd0 0 1 = 0 := rfl; rw [z] at hm; omega) | skip
    · rw [am_up_ne (by omega), w2 s (by omega)]; rfl
    · rw [am_up_ne (by omega), w3 24 (by omega), hI0, up_n (by omega), up_s rfl]; rfl
    · rw [am_up_ne (by omega), w3 24 (by omega), hI0, up_s rfl]; rfl
  have bb := pc_bb hG f d (by omega) tC LC (i := 0) (by omega)
  -- the model
  obtain ⟨J0, hJ0⟩ : ∃ J0, J0 = am_up (am_up (am_up (am_up J 0 20 (nI 0)) 0 21 (nI 0)) 13 0 (nI 6)) 13 1 (nI 0) := ⟨_, rfl⟩
  have u0 := fun I => pm_usualH f d I LM 0 (by omega)
  have u1 := fun I => pm_usualH f d I LM 1 (by omega)
  have u0' : ∀ I, fX12_usual f d (nI 119) (nI 0) I LM = some (nI 6, I, LM) := u0
  have u1' : ∀ I, fX12_usual f d (nI 119) (nI 1) I LM = some (nI 0, I, LM) := u1
  have tM : TM J0 n t := by rw [hJ0]; exact TM_up (TM_up (TM_up (TM_up hJ (by omega)) (by omega)) (by omega)) (by omega)
  have dM : DM J0 gd0 := by
    refine ⟨?_, ?_, ?_, ?_, fun m hm => ?_, fun m hm => ?_⟩
    · rw [hJ0]; simp (disch := omega) only [am_up_ne, up_n, up_s]; rfl
    · rw [hJ0]; simp (disch := omega) only [am_up_ne, up_n, up_s]; rfl
    · rw [hJ0]; simp (disch := omega) only [am_up_ne, up_n, up_s]; rfl
    · rw [hJ0]; simp (disch := omega) only [am_up_ne, up_n, up_s]; rfl
    · have z : gd0 0 0 = 0 := rfl; rw [z] at hm; omega
    · have z : gd0 0 1 = 0 := rfl; rw [z] at hm; omega
  obtain ⟨r, I2, J2, z1, z2, z3, z4, z5⟩ := rw_both hG f d hf LC LM f f (nb n t 0) 0 0 (am_up I1 25 5 (nI 0)) J0 gd0 0 (by omega) (by omega) (by omega) rfl (by omega) tC tM gd0_w dC dM (by omega)
  have agC : am_ag scrC I (am_up I1 25 5 (nI 0)) := by
    refine ag_up (ag_tr (I' := I0) ?_ (fun k j hk => ?_)) rfl
    · rw [hI0]; exact ag_up (ag_up (ag_up (ag_up (ag_up (ag_up (ag_up ag_rf rfl) rfl) rfl) rfl) rfl) rfl) rfl
    · by_cases c : k = 23
      · subst c; simp [scrC] at hk
      · rw [w3 k c]
  have agM : am_ag scrM J J0 := by rw [hJ0]; exact ag_up (ag_up (ag_up (ag_up ag_rf rfl) rfl) rfl) rfl
  refine ⟨r, I2, J2, ?_, ?_, ag_tr agC z3, ag_tr agM z4, z5⟩
  · have z1' := z1
    unfold cq at z1'
    simp (disch := omega) only [fX10_read, zz_lt, li_0, li_1, li_2, li_3, li_4, li_5, li_6, li_7, li_8, li_9, li_10, li_11, li_12, li_15, li_16, li_20, li_21, li_24, li_25, li_26, li_32, li_33, li_38, li_40, li_41, li_42, li_43, li_45, li_47, li_48, li_57, li_58, li_59, li_60, li_61, li_62, li_63, li_74, li_75, li_84, li_91, li_93, li_98, li_100, li_103, li_105, li_107, li_109, li_110, li_111, li_112, li_115, li_118, li_119, li_120, li_121, li_124, li_140, li_180, li_206, li_240, li_255, li_420, li_520, li_999, li_1000, li_1771, li_8240, li_9999, li_88200, li_1000000, li_2097151, li_31, nI_add, pk_mul, zz_sub, zz_an, nI_clamp, zz_leT, zz_leF, zz_ltT, zz_ltF, zz_eqF, zz_eqT, zz_m1, zz_m2, zz_m3, zz_m4, zz_m5, zz_m6, zz_ck, zz_bl, zz_b3, zz_b2, zz_shl, zz_bt0, zz_bt1, pk_div, Nat.zero_add, Nat.add_zero, if_true, if_false, reduceIte, Nat.mul_zero, zz_or0, zz_inT, zz_inF, cW8, cW9, cl, bb]
    exact z1'
  · have e0 : am_up (am_up (am_up (am_up (am_up (am_up J 0 3 (nI 0)) 0 4 (-nI 1)) 0 20 (nI 0)) 0 21 (nI 0)) 13 0 (nI 6)) 13 1 (nI 0) = mp J0 0 (-nI 1) := by
      rw [hJ0]
      show am_up (am_up (am_up (am_up (mp J 0 (-nI 1)) 0 20 (nI 0)) 0 21 (nI 0)) 13 0 (nI 6)) 13 1 (nI 0) = _
      rw [mp_upk _ _ _ _ (by omega), mp_upk _ _ _ _ (by omega), mp_upk _ _ _ _ (by omega), mp_upk _ _ _ _ (by omega)]
    simp (disch := omega) only [fX12_readWar, zz_lt, li_0, li_1, li_2, li_3, li_4, li_5, li_6, li_7, li_8, li_9, li_10, li_11, li_12, li_15, li_16, li_20, li_21, li_24, li_25, li_26, li_32, li_33, li_38, li_40, li_41, li_42, li_43, li_45, li_47, li_48, li_57, li_58, li_59, li_60, li_61, li_62, li_63, li_74, li_75, li_84, li_91, li_93, li_98, li_100, li_103, li_105, li_107, li_109, li_110, li_111, li_112, li_115, li_118, li_119, li_120, li_121, li_124, li_140, li_180, li_206, li_240, li_255, li_420, li_520, li_999, li_1000, li_1771, li_8240, li_9999, li_88200, li_1000000, li_2097151, li_31, nI_add, pk_mul, zz_sub, zz_an, nI_clamp, zz_leT, zz_leF, zz_ltT, zz_ltF, zz_eqF, zz_eqT, zz_m1, zz_m2, zz_m3, zz_m4, zz_m5, zz_m6, zz_ck, zz_bl, zz_b3, zz_b2, zz_shl, zz_bt0, zz_bt1, pk_div, Nat.zero_add, Nat.add_zero, if_true, if_false, reduceIte, Nat.mul_zero, zz_or0, zz_inT, zz_inF, u0', u1', e0]
    exact z2
