/-! PURE: steps of a law's code. -/
def cw (x : Nat) : Int32 := if x < 10000 then nI x else if x < 20000 then -nI ((x - 10000) % 6 + 1) else if x < 30000 then cO ((x - 20000) % 9) else -nI 20
def mk (x : Nat) : Int32 := if x < 10000 then nI 0 else if x < 20000 then nI 1 else if x < 30000 then mO (x - 20000) else nI 9
def mv (x : Nat) : Int32 := if x < 10000 then nI x else if x < 20000 then nI (x - 10000) else nI 0
theorem nt_t {a : Nat} (h : a < 2147483648) : (-nI a).toInt = -(a : Int) := by
  rw [Int32.toInt_neg, nI_toInt h, Int.bmod_eq_of_le (by omega) (by omega)]
theorem nn_le {a b : Nat} (h : a < 2147483648 ∧ b < 2147483648) : (-nI a ≤ -nI b) = (b ≤ a) := propext ⟨fun z => by
  have := Int32.le_iff_toInt_le.mp z
  rw [nt_t h.1, nt_t h.2] at this
  omega, fun z => Int32.le_iff_toInt_le.mpr (by rw [nt_t h.1, nt_t h.2]; omega)⟩
theorem nn_eqF {a b : Nat} (h : a ≠ b ∧ a < 2147483648 ∧ b < 2147483648) : (-nI a = -nI b) = False := eq_false (fun z => by
  have e : (-nI a).toInt = (-nI b).toInt := by rw [z]
  rw [nt_t h.2.1, nt_t h.2.2] at e
  omega)
theorem nn_leT {a b : Nat} (h : b ≤ a ∧ a < 2147483648) : (-nI a ≤ -nI b) = True := by rw [nn_le (by omega)]; exact eq_true h.1
theorem nn_leF {a b : Nat} (h : a < b ∧ b < 2147483648) : (-nI a ≤ -nI b) = False := by rw [nn_le (by omega)]; exact eq_false (by omega)
theorem nn_m1 {k : Nat} (h : k < 1000) : -nI 1 - -nI (k + 1) = nI k := by
  apply Int32.toInt_inj.mp
  rw [Int32.toInt_sub, nt_t (by omega), nt_t (by omega), nI_toInt (by omega), Int.bmod_eq_of_le (by omega) (by omega)]
  omega
theorem sd_1 {a : Nat} (h : a < 1000) : nI (a + 1) + -nI 1 = nI a := by
  apply Int32.toInt_inj.mp
  rw [Int32.toInt_add, nt_t (by omega), nI_toInt (by omega), nI_toInt (by omega), Int.bmod_eq_of_le (by omega) (by omega)]
  omega
theorem sd_2 (a : Nat) : a + 2 - 1 = a + 1 := by omega
theorem lj_22 : (22 : Int32) = nI 22 := rfl
theorem cw_22 (x : Nat) : (cw x = -nI 22) = False := by
  unfold cw
  by_cases a : x < 10000
  · rw [if_pos a]; exact zz_m1 (by omega)
  · rw [if_neg a]
    by_cases b : x < 20000
    · rw [if_pos b]; exact nn_eqF (by omega)
    · rw [if_neg b]
      by_cases c : x < 30000
      · rw [if_pos c]; unfold cO; exact nn_eqF (by omega)
      · rw [if_neg c]; exact nn_eqF (by omega)
/-- the class: a step -/
theorem cs_push {l len pc sp : Nat} (n d F : Nat) {I : am_I} (L : am_L) {x : Nat} {v : Int32} (hl : l < 4) (h35 : I 35 l = nI len) (hp : pc < len) (hlen : len ≤ 240) (hs : sp < 32) (hx : (x < 10000 ∧ v = nI x) ∨ (∃ k, k < 6 ∧ x = 10000 + k ∧ I 37 k = v)) (hr : I (31 + l) pc = cw x) : fX3_worth_b25 n d (F + 1) (nI l) (31 + l) (nI sp) (nI 0) (nI pc) I L = fX3_worth_b25 n d F (nI l) (31 + l) (nI (sp + 1)) (nI 0) (nI (pc + 1)) (am_up I 36 sp v) L := by
  rcases hx with ⟨h1, h2⟩ | ⟨k, h1, h2, h3⟩
  · have e : cw x = nI x := by unfold cw; rw [if_pos h1]
    rw [e] at hr
    rw [h2]
    simp (disch := omega) only [fX3_worth_b25, fX3_worth_b25w, fX3_worth_b109, fX3_worth_b245, zz_lt, li_0, li_1, li_2, li_3, li_4, li_5, li_6, li_7, li_8, li_9, li_10, li_11, li_12, li_15, li_16, li_20, li_21, li_24, li_25, li_26, li_32, li_33, li_38, li_40, li_41, li_42, li_43, li_45, li_47, li_48, li_57, li_58, li_59, li_60, li_61, li_62, li_63, li_74, li_75, li_84, li_91, li_93, li_98, li_100, li_103, li_105, li_107, li_109, li_110, li_111, li_112, li_115, li_118, li_119, li_120, li_121, li_124, li_140, li_180, li_206, li_240, li_255, li_420, li_520, li_999, li_1000, li_1771, li_8240, li_9999, li_88200, li_1000000, li_2097151, li_31, nI_add, pk_mul, zz_sub, zz_an, nI_clamp, zz_leT, zz_leF, zz_ltT, zz_ltF, zz_eqF, zz_eqT, zz_m1, zz_m2, zz_m3, zz_m4, zz_m5, zz_m6, zz_ck, zz_bl, zz_b3, zz_b2, zz_shl, zz_bt0, zz_bt1, pk_div, Nat.zero_add, Nat.add_zero, if_true, if_false, reduceIte, Nat.mul_zero, zz_or0, zz_inT, zz_inF, h35, hr]
  · have e : cw x = -nI (k + 1) := by unfold cw; rw [if_neg (by omega), if_pos (by omega), h2, Nat.add_sub_cancel_left, Nat.mod_eq_of_lt h1]
    rw [e] at hr
    rw [← h3]
    simp (disch := omega) only [fX3_worth_b25, fX3_worth_b25w, fX3_worth_b109, fX3_worth_b245, zz_lt, li_0, li_1, li_2, li_3, li_4, li_5, li_6, li_7, li_8, li_9, li_10, li_11, li_12, li_15, li_16, li_20, li_21, li_24, li_25, li_26, li_32, li_33, li_38, li_40, li_41, li_42, li_43, li_45, li_47, li_48, li_57, li_58, li_59, li_60, li_61, li_62, li_63, li_74, li_75, li_84, li_91, li_93, li_98, li_100, li_103, li_105, li_107, li_109, li_110, li_111, li_112, li_115, li_118, li_119, li_120, li_121, li_124, li_140, li_180, li_206, li_240, li_255, li_420, li_520, li_999, li_1000, li_1771, li_8240, li_9999, li_88200, li_1000000, li_2097151, li_31, nI_add, pk_mul, zz_sub, zz_an, nI_clamp, zz_leT, zz_leF, zz_ltT, zz_ltF, zz_eqF, zz_eqT, zz_m1, zz_m2, zz_m3, zz_m4, zz_m5, zz_m6, zz_ck, zz_bl, zz_b3, zz_b2, zz_shl, zz_bt0, zz_bt1, pk_div, Nat.zero_add, Nat.add_zero, if_true, if_false, reduceIte, Nat.mul_zero, zz_or0, zz_inT, zz_inF, h35, hr, nn_leF, nn_m1]
theorem cs_join {l len pc sp : Nat} (n d F : Nat) {I : am_I} (L : am_L) {o : Nat} {v w : Int32} (hl : l < 4) (h35 : I 35 l = nI len) (hp : pc < len) (hlen : len ≤ 240) (hs : sp + 1 < 32) (ho : o ≤ 8) (hr : I (31 + l) pc = cw (20000 + o)) (hv : I 36 sp = v) (hw : I 36 (sp + 1) = w) (bv : BV v) (bw : BV w) : fX3_worth_b25 n d (F + 1) (nI l) (31 + l) (nI (sp + 2)) (nI 0) (nI pc) I L = fX3_worth_b25 n d F (nI l) (31 + l) (nI (sp + 1)) (nI 0) (nI (pc + 1)) (am_up I 36 sp (jv o v w)) L := by
  have e : cw (20000 + o) = -nI (11 + o) := by unfold cw; rw [if_neg (by omega), if_neg (by omega), if_pos (by omega), Nat.add_sub_cancel_left, Nat.mod_eq_of_lt (by omega)]; rfl
  rw [e] at hr
  have j : fX3_joined n d (-nI (11 + o)) v w I L = some (jv o v w, I, L) := pc_join n d ho bv bw I L
  simp (disch := omega) only [fX3_worth_b25, fX3_worth_b25w, fX3_worth_b116, fX3_worth_b137, fX3_worth_b171, fX3_worth_b210, fX3_worth_b245, zz_lt, li_0, li_1, li_2, li_3, li_4, li_5, li_6, li_7, li_8, li_9, li_10, li_11, li_12, li_15, li_16, li_20, li_21, li_24, li_25, li_26, li_32, li_33, li_38, li_40, li_41, li_42, li_43, li_45, li_47, li_48, li_57, li_58, li_59, li_60, li_61, li_62, li_63, li_74, li_75, li_84, li_91, li_93, li_98, li_100, li_103, li_105, li_107, li_109, li_110, li_111, li_112, li_115, li_118, li_119, li_120, li_121, li_124, li_140, li_180, li_206, li_240, li_255, li_420, li_520, li_999, li_1000, li_1771, li_8240, li_9999, li_88200, li_1000000, li_2097151, li_31, nI_add, pk_mul, zz_sub, zz_an, nI_clamp, zz_leT, zz_leF, zz_ltT, zz_ltF, zz_eqF, zz_eqT, zz_m1, zz_m2, zz_m3, zz_m4, zz_m5, zz_m6, zz_ck, zz_bl, zz_b3, zz_b2, zz_shl, zz_bt0, zz_bt1, pk_div, Nat.zero_add, Nat.add_zero, if_true, if_false, reduceIte, Nat.mul_zero, zz_or0, zz_inT, zz_inF, lj_22, h35, hr, nn_leT, nn_eqF, sd_2, Nat.add_sub_cancel, hv, hw, j]
theorem cs_not {l len pc sp : Nat} (n d F : Nat) {I : am_I} (L : am_L) {v : Nat} (hl : l < 4) (h35 : I 35 l = nI len) (hp : pc < len) (hlen : len ≤ 240) (hs : sp < 32) (hr : I (31 + l) pc = cw 30000) (hv : I 36 sp = nI v) (bv : v ≤ 1) : fX3_worth_b25 n d (F + 1) (nI l) (31 + l) (nI (sp + 1)) (nI 0) (nI pc) I L = fX3_worth_b25 n d F (nI l) (31 + l) (nI (sp + 1)) (nI 0) (nI (pc + 1)) (am_up I 36 sp (nI (1 - v))) L := by
  have e : cw 30000 = -nI 20 := by unfold cw; rw [if_neg (by omega), if_neg (by omega), if_neg (by omega)]
  rw [e] at hr
  have c : v = 0 ∨ v = 1 := by omega
  rcases c with c | c <;> subst c <;> simp (disch := omega) only [fX3_worth_b25, fX3_worth_b25w, fX3_worth_b116, fX3_worth_b137, fX3_worth_b171, fX3_worth_b206, fX3_worth_b245, zz_lt, li_0, li_1, li_2, li_3, li_4, li_5, li_6, li_7, li_8, li_9, li_10, li_11, li_12, li_15, li_16, li_20, li_21, li_24, li_25, li_26, li_32, li_33, li_38, li_40, li_41, li_42, li_43, li_45, li_47, li_48, li_57, li_58, li_59, li_60, li_61, li_62, li_63, li_74, li_75, li_84, li_91, li_93, li_98, li_100, li_103, li_105, li_107, li_109, li_110, li_111, li_112, li_115, li_118, li_119, li_120, li_121, li_124, li_140, li_180, li_206, li_240, li_255, li_420, li_520, li_999, li_1000, li_1771, li_8240, li_9999, li_88200, li_1000000, li_2097151, li_31, nI_add, pk_mul, zz_sub, zz_an, nI_clamp, zz_leT, zz_leF, zz_ltT, zz_ltF, zz_eqF, zz_eqT, zz_m1, zz_m2, zz_m3, zz_m4, zz_m5, zz_m6, zz_ck, zz_bl, zz_b3, zz_b2, zz_shl, zz_bt0, zz_bt1, pk_div, Nat.zero_add, Nat.add_zero, if_true, if_false, reduceIte, Nat.mul_zero, zz_or0, zz_inT, zz_inF, lj_22, h35, hr, nn_leT, nn_eqF, Nat.add_sub_cancel, hv, Nat.sub_zero, Nat.sub_self]
/-- the model: a step -/
theorem ms_push {s e pc sp : Nat} (n d F : Nat) {I : am_I} (L : am_L) {x : Nat} {v : Int32} (hs5 : s < 5) (hp : pc < 520 * s + e) (he : e ≤ 520) (hs : sp < 32) (hx : (x < 10000 ∧ v = nI x) ∨ (∃ k, k < 6 ∧ x = 10000 + k ∧ I 9 k = v)) (hk : I 2 pc = mk x) (hv : I 3 pc = mv x) : fX12_workOut_b12 n d (F + 1) (nI s) (nI e) (nI sp) (nI pc) I L = fX12_workOut_b12 n d F (nI s) (nI e) (nI (sp + 1)) (nI (pc + 1)) (am_up I 10 sp v) L := by
  rcases hx with ⟨h1, h2⟩ | ⟨k, h1, h2, h3⟩
  · have e1 : mk x = nI 0 := by unfold mk; rw [if_pos h1]
    have e2 : mv x = nI x := by unfold mv; rw [if_pos h1]
    rw [e1] at hk
    rw [e2] at hv
    rw [h2]
    simp (disch := omega) only [fX12_workOut_b12, fX12_workOut_b12w, fX12_workOut_b45, fX12_workOut_b83, fX12_workOut_b165, zz_lt, li_0, li_1, li_2, li_3, li_4, li_5, li_6, li_7, li_8, li_9, li_10, li_11, li_12, li_15, li_16, li_20, li_21, li_24, li_25, li_26, li_32, li_33, li_38, li_40, li_41, li_42, li_43, li_45, li_47, li_48, li_57, li_58, li_59, li_60, li_61, li_62, li_63, li_74, li_75, li_84, li_91, li_93, li_98, li_100, li_103, li_105, li_107, li_109, li_110, li_111, li_112, li_115, li_118, li_119, li_120, li_121, li_124, li_140, li_180, li_206, li_240, li_255, li_420, li_520, li_999, li_1000, li_1771, li_8240, li_9999, li_88200, li_1000000, li_2097151, li_31, nI_add, pk_mul, zz_sub, zz_an, nI_clamp, zz_leT, zz_leF, zz_ltT, zz_ltF, zz_eqF, zz_eqT, zz_m1, zz_m2, zz_m3, zz_m4, zz_m5, zz_m6, zz_ck, zz_bl, zz_b3, zz_b2, zz_shl, zz_bt0, zz_bt1, pk_div, Nat.zero_add, Nat.add_zero, if_true, if_false, reduceIte, Nat.mul_zero, zz_or0, zz_inT, zz_inF, hk, hv]
  · have e1 : mk x = nI 1 := by unfold mk; rw [if_neg (by omega), if_pos (by omega)]
    have e2 : mv x = nI k := by unfold mv; rw [if_neg (by omega), if_pos (by omega), h2, Nat.add_sub_cancel_left]
    rw [e1] at hk
    rw [e2] at hv
    rw [← h3]
    simp (disch := omega) only [fX12_workOut_b12, fX12_workOut_b12w, fX12_workOut_b45, fX12_workOut_b83, fX12_workOut_b165, zz_lt, li_0, li_1, li_2, li_3, li_4, li_5, li_6, li_7, li_8, li_9, li_10, li_11, li_12, li_15, li_16, li_20, li_21, li_24, li_25, li_26, li_32, li_33, li_38, li_40, li_41, li_42, li_43, li_45, li_47, li_48, li_57, li_58, li_59, li_60, li_61, li_62, li_63, li_74, li_75, li_84, li_91, li_93, li_98, li_100, li_103, li_105, li_107, li_109, li_110, li_111, li_112, li_115, li_118, li_119, li_120, li_121, li_124, li_140, li_180, li_206, li_240, li_255, li_420, li_520, li_999, li_1000, li_1771, li_8240, li_9999, li_88200, li_1000000, li_2097151, li_31, nI_add, pk_mul, zz_sub, zz_an, nI_clamp, zz_leT, zz_leF, zz_ltT, zz_ltF, zz_eqF, zz_eqT, zz_m1, zz_m2, zz_m3, zz_m4, zz_m5, zz_m6, zz_ck, zz_bl, zz_b3, zz_b2, zz_shl, zz_bt0, zz_bt1, pk_div, Nat.zero_add, Nat.add_zero, if_true, if_false, reduceIte, Nat.mul_zero, zz_or0, zz_inT, zz_inF, hk, hv]
theorem ms_join {s e pc sp : Nat} (n d F : Nat) {I : am_I} (L : am_L) {o : Nat} {v w : Int32} (hs5 : s < 5) (hp : pc < 520 * s + e) (he : e ≤ 520) (hs : sp + 1 < 32) (ho : o ≤ 8) (hk : I 2 pc = mk (20000 + o)) (hv : I 10 sp = v) (hw : I 10 (sp + 1) = w) (bv : BV v) (bw : BV w) : fX12_workOut_b12 n d (F + 1) (nI s) (nI e) (nI (sp + 2)) (nI pc) I L = fX12_workOut_b12 n d F (nI s) (nI e) (nI (sp + 1)) (nI (pc + 1)) (am_up I 10 sp (jv o v w)) L := by
  have e1 : mk (20000 + o) = mO o := by unfold mk; rw [if_neg (by omega), if_neg (by omega), if_pos (by omega), Nat.add_sub_cancel_left]
  have j : fX12_worked n d (mO o) v.toInt64 w.toInt64 I L = some (jv o v w, I, L) := pm_join n d ho bv bw I L
  rw [e1] at hk
  obtain ⟨z, hz, z1, z2⟩ : ∃ z, mO o = nI z ∧ 1 < z ∧ z ≠ 9 ∧ z ≤ 11 := by
    unfold mO
    by_cases c : o ≤ 6
    · rw [if_pos c]; exact ⟨o + 2, rfl, by omega, by omega⟩
    · rw [if_neg c]; exact ⟨o + 3, rfl, by omega, by omega⟩
  rw [hz] at hk j
  simp (disch := omega) only [fX12_workOut_b12, fX12_workOut_b12w, fX12_workOut_b165, zz_lt, li_0, li_1, li_2, li_3, li_4, li_5, li_6, li_7, li_8, li_9, li_10, li_11, li_12, li_15, li_16, li_20, li_21, li_24, li_25, li_26, li_32, li_33, li_38, li_40, li_41, li_42, li_43, li_45, li_47, li_48, li_57, li_58, li_59, li_60, li_61, li_62, li_63, li_74, li_75, li_84, li_91, li_93, li_98, li_100, li_103, li_105, li_107, li_109, li_110, li_111, li_112, li_115, li_118, li_119, li_120, li_121, li_124, li_140, li_180, li_206, li_240, li_255, li_420, li_520, li_999, li_1000, li_1771, li_8240, li_9999, li_88200, li_1000000, li_2097151, li_31, nI_add, pk_mul, zz_sub, zz_an, nI_clamp, zz_leT, zz_leF, zz_ltT, zz_ltF, zz_eqF, zz_eqT, zz_m1, zz_m2, zz_m3, zz_m4, zz_m5, zz_m6, zz_ck, zz_bl, zz_b3, zz_b2, zz_shl, zz_bt0, zz_bt1, pk_div, Nat.zero_add, Nat.add_zero, if_true, if_false, reduceIte, Nat.mul_zero, zz_or0, zz_inT, zz_inF, hk, sd_2, Nat.add_sub_cancel, hv, hw, j]
theorem ms_not {s e pc sp : Nat} (n d F : Nat) {I : am_I} (L : am_L) {v : Nat} (hs5 : s < 5) (hp : pc < 520 * s + e) (he : e ≤ 520) (hs : sp < 32) (hk : I 2 pc = mk 30000) (hv : I 10 sp = nI v) (bv : v ≤ 1) : fX12_workOut_b12 n d (F + 1) (nI s) (nI e) (nI (sp + 1)) (nI pc) I L = fX12_workOut_b12 n d F (nI s) (nI e) (nI (sp + 1)) (nI (pc + 1)) (am_up I 10 sp (nI (1 - v))) L := by
  have e1 : mk 30000 = nI 9 := by unfold mk; rw [if_neg (by omega), if_neg (by omega), if_neg (by omega)]
  rw [e1] at hk
  simp (disch := omega) only [fX12_workOut_b12, fX12_workOut_b12w, fX12_workOut_b165, zz_lt, li_0, li_1, li_2, li_3, li_4, li_5, li_6, li_7, li_8, li_9, li_10, li_11, li_12, li_15, li_16, li_20, li_21, li_24, li_25, li_26, li_32, li_33, li_38, li_40, li_41, li_42, li_43, li_45, li_47, li_48, li_57, li_58, li_59, li_60, li_61, li_62, li_63, li_74, li_75, li_84, li_91, li_93, li_98, li_100, li_103, li_105, li_107, li_109, li_110, li_111, li_112, li_115, li_118, li_119, li_120, li_121, li_124, li_140, li_180, li_206, li_240, li_255, li_420, li_520, li_999, li_1000, li_1771, li_8240, li_9999, li_88200, li_1000000, li_2097151, li_31, nI_add, pk_mul, zz_sub, zz_an, nI_clamp, zz_leT, zz_leF, zz_ltT, zz_ltF, zz_eqF, zz_eqT, zz_m1, zz_m2, zz_m3, zz_m4, zz_m5, zz_m6, zz_ck, zz_bl, zz_b3, zz_b2, zz_shl, zz_bt0, zz_bt1, pk_div, Nat.zero_add, Nat.add_zero, if_true, if_false, reduceIte, Nat.mul_zero, zz_or0, zz_inT, zz_inF, hk, Nat.add_sub_cancel, hv]
