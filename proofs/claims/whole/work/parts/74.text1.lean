/-! PURE: fault, and text(1): a law more. -/
theorem op_fault {n : Nat} {t : Nat → Nat} (hG : GT n t) (f d : Nat) (hf : 2000 < f) (hd : 40 ≤ d) (LC LM : am_L) {I J : am_I} (hI : TC I n t) (hJ : TM J n t) (e : Int32) : am_scr (fX11_fault f d e I LC) (fX12_fault f d e J LM) I LC J LM := by
  by_cases c0 : e = 0
  · subst c0
    obtain ⟨r, I', J', w1, w2, w3, w4, _⟩ := war_read hG f d (by omega) LC LM hI hJ
    refine ⟨r, I', J', ?_, ?_, w3, w4⟩
    · simp (disch := omega) only [fX11_fault, zz_lt, li_0, li_1, li_2, li_3, li_4, li_5, li_6, li_7, li_8, li_9, li_10, li_11, li_12, li_15, li_16, li_20, li_21, li_24, li_25, li_26, li_32, li_33, li_38, li_40, li_41, li_42, li_43, li_45, li_47, li_48, li_57, li_58, li_59, li_60, li_61, li_62, li_63, li_74, li_75, li_84, li_91, li_93, li_98, li_100, li_103, li_105, li_107, li_109, li_110, li_111, li_112, li_115, li_118, li_119, li_120, li_121, li_124, li_140, li_180, li_206, li_240, li_255, li_420, li_520, li_999, li_1000, li_1771, li_8240, li_9999, li_88200, li_1000000, li_2097151, li_31, nI_add, pk_mul, zz_sub, zz_an, nI_clamp, zz_leT, zz_leF, zz_ltT, zz_ltF, zz_eqF, zz_eqT, zz_m1, zz_m2, zz_m3, zz_m4, zz_m5, zz_m6, zz_ck, zz_bl, zz_b3, zz_b2, zz_shl, zz_bt0, zz_bt1, pk_div, Nat.zero_add, Nat.add_zero, if_true, if_false, reduceIte, Nat.mul_zero, zz_or0, zz_inT, zz_inF, w1]
    · simp (disch := omega) only [fX12_fault, zz_lt, li_0, li_1, li_2, li_3, li_4, li_5, li_6, li_7, li_8, li_9, li_10, li_11, li_12, li_15, li_16, li_20, li_21, li_24, li_25, li_26, li_32, li_33, li_38, li_40, li_41, li_42, li_43, li_45, li_47, li_48, li_57, li_58, li_59, li_60, li_61, li_62, li_63, li_74, li_75, li_84, li_91, li_93, li_98, li_100, li_103, li_105, li_107, li_109, li_110, li_111, li_112, li_115, li_118, li_119, li_120, li_121, li_124, li_140, li_180, li_206, li_240, li_255, li_420, li_520, li_999, li_1000, li_1771, li_8240, li_9999, li_88200, li_1000000, li_2097151, li_31, nI_add, pk_mul, zz_sub, zz_an, nI_clamp, zz_leT, zz_leF, zz_ltT, zz_ltF, zz_eqF, zz_eqT, zz_m1, zz_m2, zz_m3, zz_m4, zz_m5, zz_m6, zz_ck, zz_bl, zz_b3, zz_b2, zz_shl, zz_bt0, zz_bt1, pk_div, Nat.zero_add, Nat.add_zero, if_true, if_false, reduceIte, Nat.mul_zero, zz_or0, zz_inT, zz_inF, w2]
  · by_cases c1 : e = 1
    · subst c1
      obtain ⟨I', J', a1, a2, r⟩ := read_both hG f d d (by omega) hd hd LC LM hI hJ (s := 4) (by omega)
      rcases r with ⟨r1, r2, _⟩ | ⟨e, _, r1, r2⟩
      · refine ⟨-nI 1, I', J', ?_, ?_, s27_scr a1, sR4_scr a2⟩
        · simp (disch := omega) only [fX11_fault, zz_lt, li_0, li_1, li_2, li_3, li_4, li_5, li_6, li_7, li_8, li_9, li_10, li_11, li_12, li_15, li_16, li_20, li_21, li_24, li_25, li_26, li_32, li_33, li_38, li_40, li_41, li_42, li_43, li_45, li_47, li_48, li_57, li_58, li_59, li_60, li_61, li_62, li_63, li_74, li_75, li_84, li_91, li_93, li_98, li_100, li_103, li_105, li_107, li_109, li_110, li_111, li_112, li_115, li_118, li_119, li_120, li_121, li_124, li_140, li_180, li_206, li_240, li_255, li_420, li_520, li_999, li_1000, li_1771, li_8240, li_9999, li_88200, li_1000000, li_2097151, li_31, nI_add, pk_mul, zz_sub, zz_an, nI_clamp, zz_leT, zz_leF, zz_ltT, zz_ltF, zz_eqF, zz_eqT, zz_m1, zz_m2, zz_m3, zz_m4, zz_m5, zz_m6, zz_ck, zz_bl, zz_b3, zz_b2, zz_shl, zz_bt0, zz_bt1, pk_div, Nat.zero_add, Nat.add_zero, if_true, if_false, reduceIte, Nat.mul_zero, zz_or0, zz_inT, zz_inF, r1]
        · simp (disch := omega) only [fX12_fault, zz_lt, li_0, li_1, li_2, li_3, li_4, li_5, li_6, li_7, li_8, li_9, li_10, li_11, li_12, li_15, li_16, li_20, li_21, li_24, li_25, li_26, li_32, li_33, li_38, li_40, li_41, li_42, li_43, li_45, li_47, li_48, li_57, li_58, li_59, li_60, li_61, li_62, li_63, li_74, li_75, li_84, li_91, li_93, li_98, li_100, li_103, li_105, li_107, li_109, li_110, li_111, li_112, li_115, li_118, li_119, li_120, li_121, li_124, li_140, li_180, li_206, li_240, li_255, li_420, li_520, li_999, li_1000, li_1771, li_8240, li_9999, li_88200, li_1000000, li_2097151, li_31, nI_add, pk_mul, zz_sub, zz_an, nI_clamp, zz_leT, zz_leF, zz_ltT, zz_ltF, zz_eqF, zz_eqT, zz_m1, zz_m2, zz_m3, zz_m4, zz_m5, zz_m6, zz_ck, zz_bl, zz_b3, zz_b2, zz_shl, zz_bt0, zz_bt1, pk_div, Nat.zero_add, Nat.add_zero, if_true, if_false, reduceIte, Nat.mul_zero, zz_or0, zz_inT, zz_inF, r2]
      · refine ⟨nI e, I', J', ?_, ?_, s27_scr a1, sR4_scr a2⟩
        · simp (disch := omega) only [fX11_fault, zz_lt, li_0, li_1, li_2, li_3, li_4, li_5, li_6, li_7, li_8, li_9, li_10, li_11, li_12, li_15, li_16, li_20, li_21, li_24, li_25, li_26, li_32, li_33, li_38, li_40, li_41, li_42, li_43, li_45, li_47, li_48, li_57, li_58, li_59, li_60, li_61, li_62, li_63, li_74, li_75, li_84, li_91, li_93, li_98, li_100, li_103, li_105, li_107, li_109, li_110, li_111, li_112, li_115, li_118, li_119, li_120, li_121, li_124, li_140, li_180, li_206, li_240, li_255, li_420, li_520, li_999, li_1000, li_1771, li_8240, li_9999, li_88200, li_1000000, li_2097151, li_31, nI_add, pk_mul, zz_sub, zz_an, nI_clamp, zz_leT, zz_leF, zz_ltT, zz_ltF, zz_eqF, zz_eqT, zz_m1, zz_m2, zz_m3, zz_m4, zz_m5, zz_m6, zz_ck, zz_bl, zz_b3, zz_b2, zz_shl, zz_bt0, zz_bt1, pk_div, Nat.zero_add, Nat.add_zero, if_true, if_false, reduceIte, Nat.mul_zero, zz_or0, zz_inT, zz_inF, r1]
        · simp (disch := omega) only [fX12_fault, zz_lt, li_0, li_1, li_2, li_3, li_4, li_5, li_6, li_7, li_8, li_9, li_10, li_11, li_12, li_15, li_16, li_20, li_21, li_24, li_25, li_26, li_32, li_33, li_38, li_40, li_41, li_42, li_43, li_45, li_47, li_48, li_57, li_58, li_59, li_60, li_61, li_62, li_63, li_74, li_75, li_84, li_91, li_93, li_98, li_100, li_103, li_105, li_107, li_109, li_110, li_111, li_112, li_115, li_118, li_119, li_120, li_121, li_124, li_140, li_180, li_206, li_240, li_255, li_420, li_520, li_999, li_1000, li_1771, li_8240, li_9999, li_88200, li_1000000, li_2097151, li_31, nI_add, pk_mul, zz_sub, zz_an, nI_clamp, zz_leT, zz_leF, zz_ltT, zz_ltF, zz_eqF, zz_eqT, zz_m1, zz_m2, zz_m3, zz_m4, zz_m5, zz_m6, zz_ck, zz_bl, zz_b3, zz_b2, zz_shl, zz_bt0, zz_bt1, pk_div, Nat.zero_add, Nat.add_zero, if_true, if_false, reduceIte, Nat.mul_zero, zz_or0, zz_inT, zz_inF, r2]
    · refine ⟨-2, I, J, ?_, ?_, ag_rf, ag_rf⟩
      · unfold fX11_fault; rw [if_neg c0, if_neg c1]
      · unfold fX12_fault; rw [if_neg c0, if_neg c1]
def sT1 (k j : Nat) : Bool := scrC k j || decide (31 ≤ k ∧ k ≤ 35) || (k == 29 && j == 5) || (k == 1 && j == 1)
def sM1 (k j : Nat) : Bool := match k with
  | 0 => j == 2 || j == 3 || j == 4 || j == 5 || j == 13 || j == 14
  | 2 => true | 3 => true | 4 => true | 5 => true | 6 => true | 7 => true | 8 => true
  | _ => false
theorem sR_M1 {s : Nat} {J J' : am_I} (a : am_ag (sR s) J J') : am_ag sM1 J J' := ag_wk a (fun k j h => by
  unfold sM1 at h
  split at h
  · have h' : ((((¬ j = 2 ∧ ¬ j = 3) ∧ ¬ j = 4) ∧ ¬ j = 5) ∧ ¬ j = 13) ∧ ¬ j = 14 := by simpa using h
    show (j == 3 || j == 4 || j == 5 || j == 14) = false
    simp [h'.1.1.1.1.2, h'.1.1.1.2, h'.1.1.2, h'.2]
  · cases h
  · cases h
  · cases h
  · cases h
  · cases h
  · cases h
  · cases h
  · next h2 h3 h4 h5 h6 h7 h8 h9 =>
    unfold sR
    split <;> first | rfl | contradiction)
theorem cd_sR {l s k j : Nat} (hl : l < s) (h : cdM l k j = true) : sR s k j = false := by
  unfold cdM at h
  split at h
  · have := of_decide_eq_true h; exact decide_eq_false (by omega)
  · have := of_decide_eq_true h; exact decide_eq_false (by omega)
  · have := of_decide_eq_true h; exact decide_eq_false (by omega)
  · have := of_decide_eq_true h; exact decide_eq_false (by omega)
  · have := of_decide_eq_true h; exact decide_eq_false (by omega)
  · have := of_decide_eq_true h; exact decide_eq_false (by omega)
  · have := of_decide_eq_true h; exact decide_eq_false (by omega)
  · cases h
theorem cd_0 {l k j : Nat} (h : cdM l k j = true) : k ≠ 0 := fun z => by subst z; cases h
def wu (W : Nat → (Nat → Nat) → Int32) (x : Nat) (w : (Nat → Nat) → Int32) : Nat → (Nat → Nat) → Int32 := fun l => if l = x then w else W l
def q1u (q : Nat → Nat) : Nat → Nat := fun i => if i = 0 then q 0 + 1 else q i
theorem wu_ne {W : Nat → (Nat → Nat) → Int32} {x l : Nat} {w : (Nat → Nat) → Int32} (h : l ≠ x) : wu W x w l = W l := if_neg h
theorem wu_eq {W : Nat → (Nat → Nat) → Int32} {x : Nat} {w : (Nat → Nat) → Int32} : wu W x w x = w := if_pos rfl
theorem gh_wu {W : Nat → (Nat → Nat) → Int32} {q : Nat → Nat} (hl : GL q) (w : (Nat → Nat) → Int32) (g : Nat → Nat → Nat) (m : Nat) : gh (wu W (q 0) w) g (q1u q 1) m = gh W g (q 1) m := by
  show gh (wu W (q 0) w) g (q 1) m = gh W g (q 1) m
  have := hl.2
  unfold gh
  by_cases c : q 1 = 0
  · rw [if_pos c, if_pos c]
  · rw [if_neg c, if_neg c, wu_ne (by omega)]
theorem text1 {n : Nat} {t : Nat → Nat} {W : Nat → (Nat → Nat) → Int32} {q : Nat → Nat} (hG : GT n t) (hl : GL q) (f d : Nat) (hf : 2000 < f) (hd : 40 ≤ d) (LC LM : am_L) {I J : am_I} (hI : TC I n t) (hJ : TM J n t) (hL : CL I W q) (hM : ML J W q) : ∃ (r : Int32) (I' J' : am_I), fX11_text f d (nI 1) I LC = some (r, I', LC) ∧ fX12_text f d (nI 1) J LM = some (r, J', LM) ∧ am_ag sM1 J J' ∧ ((am_ag scrC I I' ∧ ML J' W q ∧ J' 0 2 = J 0 2) ∨ ∃ w, q 0 < 4 ∧ CL I' (wu W (q 0) w) (q1u q) ∧ ML J' (wu W (q 0) w) (q1u q) ∧ I' 1 1 = nI 0 ∧ J' 0 2 = nI 0 ∧ am_ag sT1 I I') := by
  have l5 := hL.1
  have m13 := hM.1
  have q4 := hl.1
  by_cases c4 : q 0 = 4
  · refine ⟨-nI 1, I, J, ?_, ?_, ag_rf, Or.inl ⟨ag_rf, hM, rfl⟩⟩
    · simp (disch := omega) only [fX11_text, zz_lt, li_0, li_1, li_2, li_3, li_4, li_5, li_6, li_7, li_8, li_9, li_10, li_11, li_12, li_15, li_16, li_20, li_21, li_24, li_25, li_26, li_32, li_33, li_38, li_40, li_41, li_42, li_43, li_45, li_47, li_48, li_57, li_58, li_59, li_60, li_61, li_62, li_63, li_74, li_75, li_84, li_91, li_93, li_98, li_100, li_103, li_105, li_107, li_109, li_110, li_111, li_112, li_115, li_118, li_119, li_120, li_121, li_124, li_140, li_180, li_206, li_240, li_255, li_420, li_520, li_999, li_1000, li_1771, li_8240, li_9999, li_88200, li_1000000, li_2097151, li_31, nI_add, pk_mul, zz_sub, zz_an, nI_clamp, zz_leT, zz_leF, zz_ltT, zz_ltF, zz_eqF, zz_eqT, zz_m1, zz_m2, zz_m3, zz_m4, zz_m5, zz_m6, zz_ck, zz_bl, zz_b3, zz_b2, zz_shl, zz_bt0, zz_bt1, pk_div, Nat.zero_add, Nat.add_zero, if_true, if_false, reduceIte, Nat.mul_zero, zz_or0, zz_inT, zz_inF, l5]
    · simp (disch := omega) only [fX12_text, fX12_text_b22, zz_lt, li_0, li_1, li_2, li_3, li_4, li_5, li_6, li_7, li_8, li_9, li_10, li_11, li_12, li_15, li_16, li_20, li_21, li_24, li_25, li_26, li_32, li_33, li_38, li_40, li_41, li_42, li_43, li_45, li_47, li_48, li_57, li_58, li_59, li_60, li_61, li_62, li_63, li_74, li_75, li_84, li_91, li_93, li_98, li_100, li_103, li_105, li_107, li_109, li_110, li_111, li_112, li_115, li_118, li_119, li_120, li_121, li_124, li_140, li_180, li_206, li_240, li_255, li_420, li_520, li_999, li_1000, li_1771, li_8240, li_9999, li_88200, li_1000000, li_2097151, li_31, nI_add, pk_mul, zz_sub, zz_an, nI_clamp, zz_leT, zz_leF, zz_ltT, zz_ltF, zz_eqF, zz_eqT, zz_m1, zz_m2, zz_m3, zz_m4, zz_m5, zz_m6, zz_ck, zz_bl, zz_b3, zz_b2, zz_shl, zz_bt0, zz_bt1, pk_div, Nat.zero_add, Nat.add_zero, if_true, if_false, reduceIte, Nat.mul_zero, zz_or0, zz_inT, zz_inF, m13]
  · have c4' : q 0 < 4 := by omega
    obtain ⟨I1, J1, a1, a2, r⟩ := read_both hG f d d (by omega) hd hd LC LM hI hJ (s := q 0) (by omega)
    have mk1 : ML J1 W q := ⟨(a2 0 13 rfl).trans hM.1, (a2 0 28 rfl).trans hM.2.1, fun l e => MLaw_of (hM.2.2 l e) (fun k j c => a2 k j (cd_sR e c))⟩
    rcases r with ⟨r1, r2, cl, x1, x2, x3, x4, x5, x6, x7, x8⟩ | ⟨e, e1, r1, r2⟩
    · obtain ⟨w, wc, wm⟩ := law_new x1
      have i5 : I1 29 5 = nI (q 0) := (a1 29 5 rfl).trans l5
      have j13 := mk1.1
      have k5 : (am_cy I1 28 (31 + q 0) 0 0 (cln cl)) 29 5 = nI (q 0) := by rw [cy_ne (by omega)]; exact i5
      have k2 : (am_cy I1 28 (31 + q 0) 0 0 (cln cl)) 27 2 = nI (cln cl) := by rw [cy_ne (by omega)]; exact x5
      have k5' : (am_up (am_cy I1 28 (31 + q 0) 0 0 (cln cl)) 35 (q 0) (nI (cln cl))) 29 5 = nI (q 0) := by rw [am_up_ne (by omega)]; exact k5
      have fin : (am_up (am_up (am_up (am_cy I1 28 (31 + q 0) 0 0 (cln cl)) 35 (q 0) (nI (cln cl))) 29 5 (nI (q 0 + 1))) 1 1 (nI 0)) 29 5 = nI (q 0 + 1) := by rw [am_up_ne (by omega), up_s rfl]
      have fin2 : (am_up (am_up J1 0 2 (nI 0)) 0 13 (nI (q 0 + 1))) 0 13 = nI (q 0 + 1) := up_s rfl
      have j13' : (am_up J1 0 2 (nI 0)) 0 13 = nI (q 0) := by rw [up_n (by omega)]; exact j13
      have add : fX3_add_lawText f d I1 LC = some (am_up (am_up (am_cy I1 28 (31 + q 0) 0 0 (cln cl)) 35 (q 0) (nI (cln cl))) 29 5 (nI (q 0 + 1)), LC) := by
        simp (disch := omega) only [fX3_add_lawText, zz_lt, li_0, li_1, li_2, li_3, li_4, li_5, li_6, li_7, li_8, li_9, li_10, li_11, li_12, li_15, li_16, li_20, li_21, li_24, li_25, li_26, li_32, li_33, li_38, li_40, li_41, li_42, li_43, li_45, li_47, li_48, li_57, li_58, li_59, li_60, li_61, li_62, li_63, li_74, li_75, li_84, li_91, li_93, li_98, li_100, li_103, li_105, li_107, li_109, li_110, li_111, li_112, li_115, li_118, li_119, li_120, li_121, li_124, li_140, li_180, li_206, li_240, li_255, li_420, li_520, li_999, li_1000, li_1771, li_8240, li_9999, li_88200, li_1000000, li_2097151, li_31, nI_add, pk_mul, zz_sub, zz_an, nI_clamp, zz_leT, zz_leF, zz_ltT, zz_ltF, zz_eqF, zz_eqT, zz_m1, zz_m2, zz_m3, zz_m4, zz_m5, zz_m6, zz_ck, zz_bl, zz_b3, zz_b2, zz_shl, zz_bt0, zz_bt1, pk_div, Nat.zero_add, Nat.add_zero, if_true, if_false, reduceIte, Nat.mul_zero, zz_or0, zz_inT, zz_inF, i5, x5, k5, k2, k5', zz_cp]
      refine ⟨nI (q 0), am_up (am_up (am_up (am_cy I1 28 (31 + q 0) 0 0 (cln cl)) 35 (q 0) (nI (cln cl))) 29 5 (nI (q 0 + 1))) 1 1 (nI 0), am_up (am_up J1 0 2 (nI 0)) 0 13 (nI (q 0 + 1)), ?_, ?_, ag_up (ag_up (sR_M1 a2) rfl) rfl, Or.inr ⟨w, c4', ⟨fin, ?_, fun l e => ?_⟩, ⟨fin2, ?_, fun l e => ?_⟩, up_s rfl, ?_, ?_⟩⟩
      · simp (disch := omega) only [fX11_text, zz_lt, li_0, li_1, li_2, li_3, li_4, li_5, li_6, li_7, li_8, li_9, li_10, li_11, li_12, li_15, li_16, li_20, li_21, li_24, li_25, li_26, li_32, li_33, li_38, li_40, li_41, li_42, li_43, li_45, li_47, li_48, li_57, li_58, li_59, li_60, li_61, li_62, li_63, li_74, li_75, li_84, li_91, li_93, li_98, li_100, li_103, li_105, li_107, li_109, li_110, li_111, li_112, li_115, li_118, li_119, li_120, li_121, li_124, li_140, li_180, li_206, li_240, li_255, li_420, li_520, li_999, li_1000, li_1771, li_8240, li_9999, li_88200, li_1000000, li_2097151, li_31, nI_add, pk_mul, zz_sub, zz_an, nI_clamp, zz_leT, zz_leF, zz_ltT, zz_ltF, zz_eqF, zz_eqT, zz_m1, zz_m2, zz_m3, zz_m4, zz_m5, zz_m6, zz_ck, zz_bl, zz_b3, zz_b2, zz_shl, zz_bt0, zz_bt1, pk_div, Nat.zero_add, Nat.add_zero, if_true, if_false, reduceIte, Nat.mul_zero, zz_or0, zz_inT, zz_inF, l5, r1, add, fin, Nat.add_sub_cancel]
      · simp (disch := omega) only [fX12_text, fX12_text_b22, zz_lt, li_0, li_1, li_2, li_3, li_4, li_5, li_6, li_7, li_8, li_9, li_10, li_11, li_12, li_15, li_16, li_20, li_21, li_24, li_25, li_26, li_32, li_33, li_38, li_40, li_41, li_42, li_43, li_45, li_47, li_48, li_57, li_58, li_59, li_60, li_61, li_62, li_63, li_74, li_75, li_84, li_91, li_93, li_98, li_100, li_103, li_105, li_107, li_109, li_110, li_111, li_112, li_115, li_118, li_119, li_120, li_121, li_124, li_140, li_180, li_206, li_240, li_255, li_420, li_520, li_999, li_1000, li_1771, li_8240, li_9999, li_88200, li_1000000, li_2097151, li_31, nI_add, pk_mul, zz_sub, zz_an, nI_clamp, zz_leT, zz_leF, zz_ltT, zz_ltF, zz_eqF, zz_eqT, zz_m1, zz_m2, zz_m3, zz_m4, zz_m5, zz_m6, zz_ck, zz_bl, zz_b3, zz_b2, zz_shl, zz_bt0, zz_bt1, pk_div, Nat.zero_add, Nat.add_zero, if_true, if_false, reduceIte, Nat.mul_zero, zz_or0, zz_inT, zz_inF, m13, r2, j13', fin2, Nat.add_sub_cancel]
      · show _ = zn (q 1)
        rw [am_up_ne (by omega), up_n (by omega), am_up_ne (by omega), cy_ne (by omega), a1 29 6 rfl]
        exact hL.2.1
      · have e' : l < q 0 + 1 := e
        by_cases lq : l = q 0
        · subst lq
          rw [wu_eq]
          refine wc _ _ c4' ?_ x2 ?_
          · rw [am_up_ne (by omega), am_up_ne (by omega), up_s rfl]
          · rw [am_up_ne (by omega), am_up_ne (by omega), am_up_ne (by omega)]
            exact CC_k (c := cln cl) (fun y hy => cy_in hy) cl 0 (by omega) x6
        · rw [wu_ne lq]
          have l4 : l < 4 := by omega
          refine CLaw_of (hL.2.2 l (by omega)) (fun j => ?_) ?_
          · rw [am_up_ne (by omega), am_up_ne (by omega), am_up_ne (by omega), cy_ne (by omega)]
            exact a1 (31 + l) j (by unfold s27; simp; omega)
          · rw [am_up_ne (by omega), am_up_ne (by omega), up_n lq, cy_ne (by omega)]
            exact a1 35 l rfl
      · show _ = zn (q 1)
        rw [up_n (by omega), up_n (by omega)]
        exact mk1.2.1
      · have e' : l < q 0 + 1 := e
        by_cases lq : l = q 0
        · subst lq
          rw [wu_eq]
          refine MLaw_of (wm J1 _ (by omega) (by omega) x7 x4 x8) (fun k j c => ?_)
          rw [am_up_ne (cd_0 c), am_up_ne (cd_0 c)]
        · rw [wu_ne lq]
          refine MLaw_of (mk1.2.2 l (by omega)) (fun k j c => ?_)
          rw [am_up_ne (cd_0 c), am_up_ne (cd_0 c)]
      · rw [up_n (by omega), up_s rfl]
      · refine ag_up (ag_up (ag_up (ag_cy (ag_wk a1 (fun k j h => ?_)) (fun j => ?_)) ?_) rfl) rfl
        · unfold sT1 at h
          have h' : scrC k j = false := by
            cases z : scrC k j
            · rfl
            · rw [z] at h; simp at h
          unfold s27
          by_cases c : k = 27
          · subst c; exact absurd h' (by simp [scrC])
          · by_cases c2 : k = 28
            · subst c2; exact absurd h' (by simp [scrC])
            · simp [c, c2]
        · unfold sT1
          have : decide (31 ≤ 31 + q 0 ∧ 31 + q 0 ≤ 35) = true := decide_eq_true (by omega)
          rw [this]; simp
        · rfl
    · refine ⟨-nI 1, I1, J1, ?_, ?_, sR_M1 a2, Or.inl ⟨s27_scr a1, mk1, a2 0 2 rfl⟩⟩
      · simp (disch := omega) only [fX11_text, zz_lt, li_0, li_1, li_2, li_3, li_4, li_5, li_6, li_7, li_8, li_9, li_10, li_11, li_12, li_15, li_16, li_20, li_21, li_24, li_25, li_26, li_32, li_33, li_38, li_40, li_41, li_42, li_43, li_45, li_47, li_48, li_57, li_58, li_59, li_60, li_61, li_62, li_63, li_74, li_75, li_84, li_91, li_93, li_98, li_100, li_103, li_105, li_107, li_109, li_110, li_111, li_112, li_115, li_118, li_119, li_120, li_121, li_124, li_140, li_180, li_206, li_240, li_255, li_420, li_520, li_999, li_1000, li_1771, li_8240, li_9999, li_88200, li_1000000, li_2097151, li_31, nI_add, pk_mul, zz_sub, zz_an, nI_clamp, zz_leT, zz_leF, zz_ltT, zz_ltF, zz_eqF, zz_eqT, zz_m1, zz_m2, zz_m3, zz_m4, zz_m5, zz_m6, zz_ck, zz_bl, zz_b3, zz_b2, zz_shl, zz_bt0, zz_bt1, pk_div, Nat.zero_add, Nat.add_zero, if_true, if_false, reduceIte, Nat.mul_zero, zz_or0, zz_inT, zz_inF, l5, r1]
      · simp (disch := omega) only [fX12_text, fX12_text_b22, zz_lt, li_0, li_1, li_2, li_3, li_4, li_5, li_6, li_7, li_8, li_9, li_10, li_11, li_12, li_15, li_16, li_20, li_21, li_24, li_25, li_26, li_32, li_33, li_38, li_40, li_41, li_42, li_43, li_45, li_47, li_48, li_57, li_58, li_59, li_60, li_61, li_62, li_63, li_74, li_75, li_84, li_91, li_93, li_98, li_100, li_103, li_105, li_107, li_109, li_110, li_111, li_112, li_115, li_118, li_119, li_120, li_121, li_124, li_140, li_180, li_206, li_240, li_255, li_420, li_520, li_999, li_1000, li_1771, li_8240, li_9999, li_88200, li_1000000, li_2097151, li_31, nI_add, pk_mul, zz_sub, zz_an, nI_clamp, zz_leT, zz_leF, zz_ltT, zz_ltF, zz_eqF, zz_eqT, zz_m1, zz_m2, zz_m3, zz_m4, zz_m5, zz_m6, zz_ck, zz_bl, zz_b3, zz_b2, zz_shl, zz_bt0, zz_bt1, pk_div, Nat.zero_add, Nat.add_zero, if_true, if_false, reduceIte, Nat.mul_zero, zz_or0, zz_inT, zz_inF, m13, r2]
