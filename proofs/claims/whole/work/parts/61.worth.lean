/-! PURE: what a law is worth. -/
theorem cs_ans {l len pc : Nat} (n d F : Nat) {I : am_I} (L : am_L) {v : Int32} (hl : l < 4) (h35 : I 35 l = nI len) (hp : pc < len) (hlen : len ≤ 240) (hr : I (31 + l) pc = -nI 22) (hv : I 36 0 = v) : fX3_worth_b25 n d (F + 1) (nI l) (31 + l) (nI 1) (nI 0) (nI pc) I L = some (v, I, L) := by
  simp (disch := omega) only [fX3_worth_b25, fX3_worth_b25w, fX3_worth_b116, zz_lt, li_0, li_1, li_2, li_3, li_4, li_5, li_6, li_7, li_8, li_9, li_10, li_11, li_12, li_15, li_16, li_20, li_21, li_24, li_25, li_26, li_32, li_33, li_38, li_40, li_41, li_42, li_43, li_45, li_47, li_48, li_57, li_58, li_59, li_60, li_61, li_62, li_63, li_74, li_75, li_84, li_91, li_93, li_98, li_100, li_103, li_105, li_107, li_109, li_110, li_111, li_112, li_115, li_118, li_119, li_120, li_121, li_124, li_140, li_180, li_206, li_240, li_255, li_420, li_520, li_999, li_1000, li_1771, li_8240, li_9999, li_88200, li_1000000, li_2097151, li_31, nI_add, pk_mul, zz_sub, zz_an, nI_clamp, zz_leT, zz_leF, zz_ltT, zz_ltF, zz_eqF, zz_eqT, zz_m1, zz_m2, zz_m3, zz_m4, zz_m5, zz_m6, zz_ck, zz_bl, zz_b3, zz_b2, zz_shl, zz_bt0, zz_bt1, pk_div, Nat.zero_add, Nat.add_zero, if_true, if_false, reduceIte, Nat.mul_zero, zz_or0, zz_inT, zz_inF, lj_22, h35, hr, nn_leT, Nat.sub_self, hv]
theorem cs_unl {l len pc : Nat} (n d F : Nat) {I : am_I} (L : am_L) {v : Int32} (hl : l < 4) (h35 : I 35 l = nI len) (hp : pc < len) (hlen : len ≤ 240) (hr : I (31 + l) pc = -nI 21) (hv : I 36 0 = v) : fX3_worth_b25 n d (F + 1) (nI l) (31 + l) (nI 1) (nI 0) (nI pc) I L = fX3_worth_b25 n d F (nI l) (31 + l) (nI 0) (nI (if v = nI 0 then 1 else 0)) (nI (pc + 1)) I L := by
  by_cases c : v = nI 0 <;> simp (disch := omega) only [fX3_worth_b25, fX3_worth_b25w, fX3_worth_b116, fX3_worth_b137, fX3_worth_b166, fX3_worth_b245, zz_lt, li_0, li_1, li_2, li_3, li_4, li_5, li_6, li_7, li_8, li_9, li_10, li_11, li_12, li_15, li_16, li_20, li_21, li_24, li_25, li_26, li_32, li_33, li_38, li_40, li_41, li_42, li_43, li_45, li_47, li_48, li_57, li_58, li_59, li_60, li_61, li_62, li_63, li_74, li_75, li_84, li_91, li_93, li_98, li_100, li_103, li_105, li_107, li_109, li_110, li_111, li_112, li_115, li_118, li_119, li_120, li_121, li_124, li_140, li_180, li_206, li_240, li_255, li_420, li_520, li_999, li_1000, li_1771, li_8240, li_9999, li_88200, li_1000000, li_2097151, li_31, nI_add, pk_mul, zz_sub, zz_an, nI_clamp, zz_leT, zz_leF, zz_ltT, zz_ltF, zz_eqF, zz_eqT, zz_m1, zz_m2, zz_m3, zz_m4, zz_m5, zz_m6, zz_ck, zz_bl, zz_b3, zz_b2, zz_shl, zz_bt0, zz_bt1, pk_div, Nat.zero_add, Nat.add_zero, if_true, if_false, reduceIte, Nat.mul_zero, zz_or0, zz_inT, zz_inF, lj_22, h35, hr, nn_leT, nn_eqF, Nat.sub_self, hv, c]
theorem cs_skip {l len pc : Nat} (n d F : Nat) {I : am_I} (L : am_L) (x : Nat) (hl : l < 4) (h35 : I 35 l = nI len) (hp : pc < len) (hlen : len ≤ 240) (hr : I (31 + l) pc = cw x) : fX3_worth_b25 n d (F + 1) (nI l) (31 + l) (nI 0) (nI 1) (nI pc) I L = fX3_worth_b25 n d F (nI l) (31 + l) (nI 0) (nI 1) (nI (pc + 1)) I L := by
  simp (disch := omega) only [fX3_worth_b25, fX3_worth_b25w, fX3_worth_b67, fX3_worth_b245, zz_lt, li_0, li_1, li_2, li_3, li_4, li_5, li_6, li_7, li_8, li_9, li_10, li_11, li_12, li_15, li_16, li_20, li_21, li_24, li_25, li_26, li_32, li_33, li_38, li_40, li_41, li_42, li_43, li_45, li_47, li_48, li_57, li_58, li_59, li_60, li_61, li_62, li_63, li_74, li_75, li_84, li_91, li_93, li_98, li_100, li_103, li_105, li_107, li_109, li_110, li_111, li_112, li_115, li_118, li_119, li_120, li_121, li_124, li_140, li_180, li_206, li_240, li_255, li_420, li_520, li_999, li_1000, li_1771, li_8240, li_9999, li_88200, li_1000000, li_2097151, li_31, nI_add, pk_mul, zz_sub, zz_an, nI_clamp, zz_leT, zz_leF, zz_ltT, zz_ltF, zz_eqF, zz_eqT, zz_m1, zz_m2, zz_m3, zz_m4, zz_m5, zz_m6, zz_ck, zz_bl, zz_b3, zz_b2, zz_shl, zz_bt0, zz_bt1, pk_div, Nat.zero_add, Nat.add_zero, if_true, if_false, reduceIte, Nat.mul_zero, zz_or0, zz_inT, zz_inF, lj_22, h35, hr, cw_22]
theorem cs_skipE {l len pc : Nat} (n d F : Nat) {I : am_I} (L : am_L) (hl : l < 4) (h35 : I 35 l = nI len) (hp : pc < len) (hlen : len ≤ 240) (hr : I (31 + l) pc = -nI 22) : fX3_worth_b25 n d (F + 1) (nI l) (31 + l) (nI 0) (nI 1) (nI pc) I L = fX3_worth_b25 n d F (nI l) (31 + l) (nI 0) (nI 0) (nI (pc + 1)) I L := by
  simp (disch := omega) only [fX3_worth_b25, fX3_worth_b25w, fX3_worth_b67, fX3_worth_b245, zz_lt, li_0, li_1, li_2, li_3, li_4, li_5, li_6, li_7, li_8, li_9, li_10, li_11, li_12, li_15, li_16, li_20, li_21, li_24, li_25, li_26, li_32, li_33, li_38, li_40, li_41, li_42, li_43, li_45, li_47, li_48, li_57, li_58, li_59, li_60, li_61, li_62, li_63, li_74, li_75, li_84, li_91, li_93, li_98, li_100, li_103, li_105, li_107, li_109, li_110, li_111, li_112, li_115, li_118, li_119, li_120, li_121, li_124, li_140, li_180, li_206, li_240, li_255, li_420, li_520, li_999, li_1000, li_1771, li_8240, li_9999, li_88200, li_1000000, li_2097151, li_31, nI_add, pk_mul, zz_sub, zz_an, nI_clamp, zz_leT, zz_leF, zz_ltT, zz_ltF, zz_eqF, zz_eqT, zz_m1, zz_m2, zz_m3, zz_m4, zz_m5, zz_m6, zz_ck, zz_bl, zz_b3, zz_b2, zz_shl, zz_bt0, zz_bt1, pk_div, Nat.zero_add, Nat.add_zero, if_true, if_false, reduceIte, Nat.mul_zero, zz_or0, zz_inT, zz_inF, lj_22, h35, hr]
theorem cs_end {l len : Nat} (n d F : Nat) {I : am_I} (L : am_L) (hl : l < 4) (h35 : I 35 l = nI len) (hlen : len ≤ 240) : fX3_worth_b25 n d (F + 1) (nI l) (31 + l) (nI 0) (nI 0) (nI len) I L = some (nI 0, I, L) := by
  simp (disch := omega) only [fX3_worth_b25, fX3_worth_b25w, zz_lt, li_0, li_1, li_2, li_3, li_4, li_5, li_6, li_7, li_8, li_9, li_10, li_11, li_12, li_15, li_16, li_20, li_21, li_24, li_25, li_26, li_32, li_33, li_38, li_40, li_41, li_42, li_43, li_45, li_47, li_48, li_57, li_58, li_59, li_60, li_61, li_62, li_63, li_74, li_75, li_84, li_91, li_93, li_98, li_100, li_103, li_105, li_107, li_109, li_110, li_111, li_112, li_115, li_118, li_119, li_120, li_121, li_124, li_140, li_180, li_206, li_240, li_255, li_420, li_520, li_999, li_1000, li_1771, li_8240, li_9999, li_88200, li_1000000, li_2097151, li_31, nI_add, pk_mul, zz_sub, zz_an, nI_clamp, zz_leT, zz_leF, zz_ltT, zz_ltF, zz_eqF, zz_eqT, zz_m1, zz_m2, zz_m3, zz_m4, zz_m5, zz_m6, zz_ck, zz_bl, zz_b3, zz_b2, zz_shl, zz_bt0, zz_bt1, pk_div, Nat.zero_add, Nat.add_zero, if_true, if_false, reduceIte, Nat.mul_zero, zz_or0, zz_inT, zz_inF, h35]
theorem cs_skips {l len : Nat} (n d F : Nat) {I : am_I} (L : am_L) (hl : l < 4) (h35 : I 35 l = nI len) (hlen : len ≤ 240) : ∀ (ops : List Nat) (pc : Nat), pc + ops.length ≤ len → RQ (I (31 + l)) cw pc ops → fX3_worth_b25 n d (F + ops.length) (nI l) (31 + l) (nI 0) (nI 1) (nI pc) I L = fX3_worth_b25 n d F (nI l) (31 + l) (nI 0) (nI 1) (nI (pc + ops.length)) I L
  | [], _, _, _ => rfl
  | x :: xs, pc, h, r => by
    have h' : pc + (xs.length + 1) ≤ len := h
    show fX3_worth_b25 n d (F + xs.length + 1) (nI l) (31 + l) (nI 0) (nI 1) (nI pc) I L = fX3_worth_b25 n d F (nI l) (31 + l) (nI 0) (nI 1) (nI (pc + (xs.length + 1))) I L
    rw [cs_skip n d (F + xs.length) L x hl h35 (by omega) hlen r.1, cs_skips n d F L hl h35 hlen xs (pc + 1) (by omega) r.2, show pc + 1 + xs.length = pc + (xs.length + 1) by omega]
theorem mw_run {y : Nat → Nat} {h : Nat} {ops : List Nat} {v : Int32} (hm : MRun y h ops v) (hh : h ≤ 32) {s m : Nat} (n d : Nat) (hn : 2000 < n) {I : am_I} (L : am_L) (hs5 : s < 5) (he : m + ops.length ≤ 520) (h9 : ∀ i, i < 6 → I 9 i = nI (y i)) (hk : RQ (I 2) mk (520 * s + m) ops) (hv : RQ (I 3) mv (520 * s + m) ops) : ∃ I', fX12_workOut n d (nI s) (nI m) (nI (m + ops.length)) I L = some (v, I', L) ∧ (∀ k, k ≠ 10 → I' k = I k) := by
  obtain ⟨I', a1, a2, a3, a4⟩ := hm n d (n - ops.length) s (m + ops.length) (520 * s + m) 0 I L hs5 (by omega) he (by omega) h9 hk hv
  refine ⟨I', ?_, a4⟩
  rw [show n - ops.length + ops.length = n by omega] at a1
  obtain ⟨F, hF⟩ : ∃ F, n - ops.length = F + 1 := ⟨n - ops.length - 1, by omega⟩
  rw [hF] at a1
  have e : fX12_workOut_b12 n d (F + 1) (nI s) (nI (m + ops.length)) (nI (0 + 1)) (nI (520 * s + m + ops.length)) I' L = some (v, I', L) := by
    simp (disch := omega) only [fX12_workOut_b12, fX12_workOut_b12w, zz_lt, li_0, li_1, li_2, li_3, li_4, li_5, li_6, li_7, li_8, li_9, li_10, li_11, li_12, li_15, li_16, li_20, li_21, li_24, li_25, li_26, li_32, li_33, li_38, li_40, li_41, li_42, li_43, li_45, li_47, li_48, li_57, li_58, li_59, li_60, li_61, li_62, li_63, li_74, li_75, li_84, li_91, li_93, li_98, li_100, li_103, li_105, li_107, li_109, li_110, li_111, li_112, li_115, li_118, li_119, li_120, li_121, li_124, li_140, li_180, li_206, li_240, li_255, li_420, li_520, li_999, li_1000, li_1771, li_8240, li_9999, li_88200, li_1000000, li_2097151, li_31, nI_add, pk_mul, zz_sub, zz_an, nI_clamp, zz_leT, zz_leF, zz_ltT, zz_ltF, zz_eqF, zz_eqT, zz_m1, zz_m2, zz_m3, zz_m4, zz_m5, zz_m6, zz_ck, zz_bl, zz_b3, zz_b2, zz_shl, zz_bt0, zz_bt1, pk_div, Nat.zero_add, Nat.add_zero, if_true, if_false, reduceIte, Nat.mul_zero, zz_or0, zz_inT, zz_inF, a2]
  have b : fX12_workOut n d (nI s) (nI m) (nI (m + ops.length)) I L = fX12_workOut_b12 n d n (nI s) (nI (m + ops.length)) (nI 0) (nI (520 * s + m)) I L := by
    simp (disch := omega) only [fX12_workOut, zz_lt, li_0, li_1, li_2, li_3, li_4, li_5, li_6, li_7, li_8, li_9, li_10, li_11, li_12, li_15, li_16, li_20, li_21, li_24, li_25, li_26, li_32, li_33, li_38, li_40, li_41, li_42, li_43, li_45, li_47, li_48, li_57, li_58, li_59, li_60, li_61, li_62, li_63, li_74, li_75, li_84, li_91, li_93, li_98, li_100, li_103, li_105, li_107, li_109, li_110, li_111, li_112, li_115, li_118, li_119, li_120, li_121, li_124, li_140, li_180, li_206, li_240, li_255, li_420, li_520, li_999, li_1000, li_1771, li_8240, li_9999, li_88200, li_1000000, li_2097151, li_31, nI_add, pk_mul, zz_sub, zz_an, nI_clamp, zz_leT, zz_leF, zz_ltT, zz_ltF, zz_eqF, zz_eqT, zz_m1, zz_m2, zz_m3, zz_m4, zz_m5, zz_m6, zz_ck, zz_bl, zz_b3, zz_b2, zz_shl, zz_bt0, zz_bt1, pk_div, Nat.zero_add, Nat.add_zero, if_true, if_false, reduceIte, Nat.mul_zero, zz_or0, zz_inT, zz_inF]
  rw [b, a1, e]
def CC (f : Nat → Int32) : Nat → List (List Nat × List Nat) → Prop
  | _, [] => True
  | c, p :: r => (p.1 = [] → RQ f cw c p.2 ∧ f (c + p.2.length) = -nI 22 ∧ CC f (c + p.2.length + 1) r) ∧ (p.1 ≠ [] → RQ f cw c p.1 ∧ f (c + p.1.length) = -nI 21 ∧ RQ f cw (c + p.1.length + 1) p.2 ∧ f (c + p.1.length + 1 + p.2.length) = -nI 22 ∧ CC f (c + p.1.length + 1 + p.2.length + 1) r)
def cln : List (List Nat × List Nat) → Nat
  | [] => 0
  | p :: r => (if p.1 = [] then 0 else p.1.length + 1) + p.2.length + 1 + cln r
def MC (I : am_I) (s : Nat) : Nat → Nat → List (List Nat × List Nat) → Prop
  | _, _, [] => True
  | m, j, p :: r => I 6 (140 * s + j) = nI m ∧ I 7 (140 * s + j) = nI (m + p.1.length) ∧ I 8 (140 * s + j) = nI (m + p.1.length + p.2.length) ∧ RQ (I 2) mk (520 * s + m) p.1 ∧ RQ (I 3) mv (520 * s + m) p.1 ∧ RQ (I 2) mk (520 * s + (m + p.1.length)) p.2 ∧ RQ (I 3) mv (520 * s + (m + p.1.length)) p.2 ∧ MC I s (m + p.1.length + p.2.length) (j + 1) r
def mln : List (List Nat × List Nat) → Nat
  | [] => 0
  | p :: r => p.1.length + p.2.length + mln r
def WC : List (List Nat × List Nat) → Prop
  | [] => True
  | p :: r => (p.1 ≠ [] → EX true 18 p.1) ∧ (∃ b, EX b 18 p.2) ∧ WC r
theorem MC_ext {I I' : am_I} {s : Nat} (e : ∀ k, k ≠ 10 → I' k = I k) : ∀ (cl : List (List Nat × List Nat)) (m j : Nat), MC I s m j cl → MC I' s m j cl
  | [], _, _, _ => trivial
  | p :: r, m, j, h => by
    obtain ⟨h1, h2, h3, h4, h5, h6, h7, h8⟩ := h
    refine ⟨?_, ?_, ?_, ?_, ?_, ?_, ?_, MC_ext e r _ _ h8⟩
    · rw [e 6 (by omega)]; exact h1
    · rw [e 7 (by omega)]; exact h2
    · rw [e 8 (by omega)]; exact h3
    · rw [e 2 (by omega)]; exact h4
    · rw [e 3 (by omega)]; exact h5
    · rw [e 2 (by omega)]; exact h6
    · rw [e 3 (by omega)]; exact h7
theorem a36 {I I' : am_I} (e : ∀ k, k ≠ 36 → I' k = I k) : am_ag s36 I I' := fun k j hk => by
  rw [e k (fun z => by subst z; simp [s36] at hk)]
theorem a10 {I I' : am_I} (e : ∀ k, k ≠ 10 → I' k = I k) : am_ag s10 I I' := fun k j hk => by
  rw [e k (fun z => by subst z; simp [s10] at hk)]
def CWo (y : Nat → Nat) (cl : List (List Nat × List Nat)) (v : Int32) : Prop := ∀ (n d F l len c : Nat) (I : am_I) (L : am_L), l < 4 → I 35 l = nI len → c + cln cl = len → len ≤ 240 → (∀ i, i < 6 → I 37 i = nI (y i)) → CC (I (31 + l)) c cl → ∃ I', fX3_worth_b25 n d (F + cln cl + 1) (nI l) (31 + l) (nI 0) (nI 0) (nI c) I L = some (v, I', L) ∧ (∀ k, k ≠ 36 → I' k = I k)
def MWo (y : Nat → Nat) (cl : List (List Nat × List Nat)) (v : Int32) : Prop := ∀ (n d F s m j : Nat) (I : am_I) (L : am_L), 2000 < n → s < 5 → m + mln cl ≤ 520 → I 5 s = nI (j + cl.length) → j + cl.length ≤ 140 → (∀ i, i < 6 → I 9 i = nI (y i)) → MC I s m j cl → ∃ I', fX12_worthOf_b6 n d (F + cl.length + 1) (nI s) (nI (140 * s + j)) I L = some (v, I', L) ∧ (∀ k, k ≠ 10 → I' k = I k)
theorem law_both (y : Nat → Nat) (hy : ∀ i, i < 6 → y i ≤ 9999) : ∀ cl : List (List Nat × List Nat), WC cl → ∃ v, CWo y cl v ∧ MWo y cl v
  | [], _ => by
    refine ⟨nI 0, ?_, ?_⟩
    · intro n d F l len c I L hl h35 hc hlen h37 hr
      have e : c = len := hc
      subst e
      exact ⟨I, cs_end n d F L hl h35 hlen, fun _ _ => rfl⟩
    · intro n d F s m j I L hn hs hm h5 hj h9 hc
      refine ⟨I, ?_, fun _ _ => rfl⟩
      have h5' : I 5 s = nI j := h5
      show fX12_worthOf_b6 n d (F + 1) (nI s) (nI (140 * s + j)) I L = _
      have hj' : j ≤ 140 := hj
      simp (disch := omega) only [fX12_worthOf_b6, fX12_worthOf_b6w, zz_lt, li_0, li_1, li_2, li_3, li_4, li_5, li_6, li_7, li_8, li_9, li_10, li_11, li_12, li_15, li_16, li_20, li_21, li_24, li_25, li_26, li_32, li_33, li_38, li_40, li_41, li_42, li_43, li_45, li_47, li_48, li_57, li_58, li_59, li_60, li_61, li_62, li_63, li_74, li_75, li_84, li_91, li_93, li_98, li_100, li_103, li_105, li_107, li_109, li_110, li_111, li_112, li_115, li_118, li_119, li_120, li_121, li_124, li_140, li_180, li_206, li_240, li_255, li_420, li_520, li_999, li_1000, li_1771, li_8240, li_9999, li_88200, li_1000000, li_2097151, li_31, nI_add, pk_mul, zz_sub, zz_an, nI_clamp, zz_leT, zz_leF, zz_ltT, zz_ltF, zz_eqF, zz_eqT, zz_m1, zz_m2, zz_m3, zz_m4, zz_m5, zz_m6, zz_ck, zz_bl, zz_b3, zz_b2, zz_shl, zz_bt0, zz_bt1, pk_div, Nat.zero_add, Nat.add_zero, if_true, if_false, reduceIte, Nat.mul_zero, zz_or0, zz_inT, zz_inF, h5']
  | p :: r, w => by
    obtain ⟨w1, ⟨b, w2⟩, w3⟩ := w
    obtain ⟨va, a1, _, ac, am⟩ := w2.2 y hy
    obtain ⟨vr, rc, rm⟩ := law_both y hy r w3
    by_cases c0 : p.1 = []
    · refine ⟨va, ?_, ?_⟩
      · intro n d F l len c I L hl h35 hc hlen h37 hr
        have hc' : c + ((if p.1 = [] then 0 else p.1.length + 1) + p.2.length + 1 + cln r) = len := hc
        rw [if_pos c0] at hc'
        obtain ⟨q1, q2, q3⟩ := hr.1 c0
        obtain ⟨I1, e1, e2, e3, e4⟩ := ac n d (F + cln r + 2) l len c 0 I L hl h35 (by omega) hlen (by omega) h37 q1
        refine ⟨I1, ?_, e4⟩
        show fX3_worth_b25 n d (F + ((if p.1 = [] then 0 else p.1.length + 1) + p.2.length + 1 + cln r) + 1) (nI l) (31 + l) (nI 0) (nI 0) (nI c) I L = _
        rw [if_pos c0, show F + (0 + p.2.length + 1 + cln r) + 1 = F + cln r + 2 + p.2.length by omega, e1]
        exact cs_ans n d (F + cln r + 1) L hl (by rw [e4 35 (by omega)]; exact h35) (by omega) hlen (by rw [e4 (31 + l) (by omega)]; exact q2) e2
      · intro n d F s m j I L hn hs hm h5 hj h9 hc
        obtain ⟨q1, q2, q3, _, _, q6, q7, q8⟩ := hc
        have hm' : m + (p.1.length + p.2.length + mln r) ≤ 520 := hm
        have hj' : j + (r.length + 1) ≤ 140 := hj
        have h5' : I 5 s = nI (j + (r.length + 1)) := h5
        have l0 : p.1.length = 0 := by rw [c0]; rfl
        obtain ⟨I1, e1, e2⟩ := mw_run am (by omega) n d hn L hs (m := m + p.1.length) (by omega) h9 q6 q7
        refine ⟨I1, ?_, e2⟩
        show fX12_worthOf_b6 n d (F + (r.length + 1) + 1) (nI s) (nI (140 * s + j)) I L = _
        rw [l0, Nat.add_zero] at q2 q3 e1
        simp (disch := omega) only [fX12_worthOf_b6, fX12_worthOf_b6w, fX12_worthOf_b57, zz_lt, li_0, li_1, li_2, li_3, li_4, li_5, li_6, li_7, li_8, li_9, li_10, li_11, li_12, li_15, li_16, li_20, li_21, li_24, li_25, li_26, li_32, li_33, li_38, li_40, li_41, li_42, li_43, li_45, li_47, li_48, li_57, li_58, li_59, li_60, li_61, li_62, li_63, li_74, li_75, li_84, li_91, li_93, li_98, li_100, li_103, li_105, li_107, li_109, li_110, li_111, li_112, li_115, li_118, li_119, li_120, li_121, li_124, li_140, li_180, li_206, li_240, li_255, li_420, li_520, li_999, li_1000, li_1771, li_8240, li_9999, li_88200, li_1000000, li_2097151, li_31, nI_add, pk_mul, zz_sub, zz_an, nI_clamp, zz_leT, zz_leF, zz_ltT, zz_ltF, zz_eqF, zz_eqT, zz_m1, zz_m2, zz_m3, zz_m4, zz_m5, zz_m6, zz_ck, zz_bl, zz_b3, zz_b2, zz_shl, zz_bt0, zz_bt1, pk_div, Nat.zero_add, Nat.add_zero, if_true, if_false, reduceIte, Nat.mul_zero, zz_or0, zz_inT, zz_inF, h5', q1, q2, q3, e1]
    · obtain ⟨vt, t1, _, tc, tm⟩ := (w1 c0).2 y hy
      have l1 : 1 ≤ p.1.length := by
        cases h : p.1 with
        | nil => exact absurd h c0
        | cons x xs => show 1 ≤ xs.length + 1; omega
      refine ⟨if vt = nI 0 then vr else va, ?_, ?_⟩
      · intro n d F l len c I L hl h35 hc hlen h37 hr
        have hc' : c + ((if p.1 = [] then 0 else p.1.length + 1) + p.2.length + 1 + cln r) = len := hc
        rw [if_neg c0] at hc'
        obtain ⟨q1, q2, q3, q4, q5⟩ := hr.2 c0
        obtain ⟨I1, e1, e2, e3, e4⟩ := tc n d (F + cln r + 3 + p.2.length) l len c 0 I L hl h35 (by omega) hlen (by omega) h37 q1
        have h35' : I1 35 l = nI len := by rw [e4 35 (by omega)]; exact h35
        have st := cs_unl n d (F + cln r + 2 + p.2.length) (I := I1) L (pc := c + p.1.length) hl h35' (by omega) hlen (by rw [e4 (31 + l) (by omega)]; exact q2) e2
        have go : ∀ X, fX3_worth_b25 n d (F + cln r + 2 + p.2.length) (nI l) (31 + l) (nI 0) (nI (if vt = nI 0 then 1 else 0)) (nI (c + p.1.length + 1)) I1 L = X → fX3_worth_b25 n d (F + cln (p :: r) + 1) (nI l) (31 + l) (nI 0) (nI 0) (nI c) I L = X := fun X hX => by
          show fX3_worth_b25 n d (F + ((if p.1 = [] then 0 else p.1.length + 1) + p.2.length + 1 + cln r) + 1) (nI l) (31 + l) (nI 0) (nI 0) (nI c) I L = _
          rw [if_neg c0, show F + (p.1.length + 1 + p.2.length + 1 + cln r) + 1 = F + cln r + 3 + p.2.length + p.1.length by omega, e1]
          show fX3_worth_b25 n d (F + cln r + 3 + p.2.length) (nI l) (31 + l) (nI 1) (nI 0) (nI (c + p.1.length)) I1 L = _
          rw [show F + cln r + 3 + p.2.length = F + cln r + 2 + p.2.length + 1 by omega, st, hX]
        by_cases z : vt = nI 0
        · rw [if_pos z]
          have s1 := cs_skips n d (F + cln r + 2) L hl h35' hlen p.2 (c + p.1.length + 1) (by omega) (by rw [e4 (31 + l) (by omega)]; exact q3)
          have s2 := cs_skipE n d (F + cln r + 1) L (pc := c + p.1.length + 1 + p.2.length) hl h35' (by omega) hlen (by rw [e4 (31 + l) (by omega)]; exact q4)
          obtain ⟨I2, u1, u2⟩ := rc n d F l len (c + p.1.length + 1 + p.2.length + 1) I1 L hl h35' (by omega) hlen (by rw [e4 37 (by omega)]; exact h37) (by rw [e4 (31 + l) (by omega)]; exact q5)
          refine ⟨I2, go _ ?_, fun k hk => by rw [u2 k hk, e4 k hk]⟩
          rw [if_pos z, s1, s2, u1]
        · rw [if_neg z]
          obtain ⟨I2, u1, u2, u3, u4⟩ := ac n d (F + cln r + 2) l len (c + p.1.length + 1) 0 I1 L hl h35' (by omega) hlen (by omega) (by rw [e4 37 (by omega)]; exact h37) (by rw [e4 (31 + l) (by omega)]; exact q3)
          refine ⟨I2, go _ ?_, fun k hk => by rw [u4 k hk, e4 k hk]⟩
          rw [if_neg z, u1]
          exact cs_ans n d (F + cln r + 1) L hl (by rw [u4 35 (by omega)]; exact h35') (by omega) hlen (by rw [u4 (31 + l) (by omega), e4 (31 + l) (by omega)]; exact q4) u2
      · intro n d F s m j I L hn hs hm h5 hj h9 hc
        obtain ⟨q1, q2, q3, q4, q5, q6, q7, q8⟩ := hc
        have hm' : m + (p.1.length + p.2.length + mln r) ≤ 520 := hm
        have hj' : j + (r.length + 1) ≤ 140 := hj
        have h5' : I 5 s = nI (j + (r.length + 1)) := h5
        obtain ⟨I1, e1, e2⟩ := mw_run tm (by omega) n d hn L hs (m := m) (by omega) h9 q4 q5
        by_cases z : vt = nI 0
        · rw [if_pos z]
          obtain ⟨I2, u1, u2⟩ := rm n d F s (m + p.1.length + p.2.length) (j + 1) I1 L hn hs (by omega) (by rw [e2 5 (by omega), h5', show j + (r.length + 1) = j + 1 + r.length by omega]) (by omega) (by rw [e2 9 (by omega)]; exact h9) (MC_ext e2 r _ _ q8)
          refine ⟨I2, ?_, fun k hk => by rw [u2 k hk, e2 k hk]⟩
          rw [z] at e1
          show fX12_worthOf_b6w n d (fX12_worthOf_b6 n d (F + r.length + 1)) (nI s) (nI (140 * s + j)) I L = _
          simp (disch := omega) only [fX12_worthOf_b6w, zz_lt, li_0, li_1, li_2, li_3, li_4, li_5, li_6, li_7, li_8, li_9, li_10, li_11, li_12, li_15, li_16, li_20, li_21, li_24, li_25, li_26, li_32, li_33, li_38, li_40, li_41, li_42, li_43, li_45, li_47, li_48, li_57, li_58, li_59, li_60, li_61, li_62, li_63, li_74, li_75, li_84, li_91, li_93, li_98, li_100, li_103, li_105, li_107, li_109, li_110, li_111, li_112, li_115, li_118, li_119, li_120, li_121, li_124, li_140, li_180, li_206, li_240, li_255, li_420, li_520, li_999, li_1000, li_1771, li_8240, li_9999, li_88200, li_1000000, li_2097151, li_31, nI_add, pk_mul, zz_sub, zz_an, nI_clamp, zz_leT, zz_leF, zz_ltT, zz_ltF, zz_eqF, zz_eqT, zz_m1, zz_m2, zz_m3, zz_m4, zz_m5, zz_m6, zz_ck, zz_bl, zz_b3, zz_b2, zz_shl, zz_bt0, zz_bt1, pk_div, Nat.zero_add, Nat.add_zero, if_true, if_false, reduceIte, Nat.mul_zero, zz_or0, zz_inT, zz_inF, h5', q1, q2, q3, e1]
          exact u1
        · rw [if_neg z]
          obtain ⟨I2, u1, u2⟩ := mw_run am (by omega) n d hn L hs (I := I1) (m := m + p.1.length) (by omega) (by rw [e2 9 (by omega)]; exact h9) (by rw [e2 2 (by omega)]; exact q6) (by rw [e2 3 (by omega)]; exact q7)
          refine ⟨I2, ?_, fun k hk => by rw [u2 k hk, e2 k hk]⟩
          show fX12_worthOf_b6 n d (F + r.length + 1 + 1) (nI s) (nI (140 * s + j)) I L = _
          have q2' := e2 7 (by omega)
          have q3' := e2 8 (by omega)
          simp (disch := omega) only [fX12_worthOf_b6, fX12_worthOf_b6w, fX12_worthOf_b57, zz_lt, li_0, li_1, li_2, li_3, li_4, li_5, li_6, li_7, li_8, li_9, li_10, li_11, li_12, li_15, li_16, li_20, li_21, li_24, li_25, li_26, li_32, li_33, li_38, li_40, li_41, li_42, li_43, li_45, li_47, li_48, li_57, li_58, li_59, li_60, li_61, li_62, li_63, li_74, li_75, li_84, li_91, li_93, li_98, li_100, li_103, li_105, li_107, li_109, li_110, li_111, li_112, li_115, li_118, li_119, li_120, li_121, li_124, li_140, li_180, li_206, li_240, li_255, li_420, li_520, li_999, li_1000, li_1771, li_8240, li_9999, li_88200, li_1000000, li_2097151, li_31, nI_add, pk_mul, zz_sub, zz_an, nI_clamp, zz_leT, zz_leF, zz_ltT, zz_ltF, zz_eqF, zz_eqT, zz_m1, zz_m2, zz_m3, zz_m4, zz_m5, zz_m6, zz_ck, zz_bl, zz_b3, zz_b2, zz_shl, zz_bt0, zz_bt1, pk_div, Nat.zero_add, Nat.add_zero, if_true, if_false, reduceIte, Nat.mul_zero, zz_or0, zz_inT, zz_inF, h5', q1, q2, q3, q2', q3', e1, u1, z]
