/-! PURE: ask. -/
theorem tF_mono (X : Nat → Nat → Nat) (N : Nat) : ∀ m x, tF X N x ≤ tF X N (x + m)
  | 0, x => Nat.le_refl _
  | m + 1, x => by
    have := tF_mono X N m x
    rw [← Nat.add_assoc, tF_s]
    omega
theorem pm_fit0 {X : Nat → Nat → Nat} (hX : GX X) {I : am_I} (h : MX I X) (L : am_L) {N P : Nat} (hN : (N = 1 ∧ P = 21) ∨ (N = 2 ∧ P = 441) ∨ (N = 3 ∧ P = 9261)) : ∀ (m x G : Nat), x + m = P → m < G → tF X N x = 0 → ∃ v, fX12_fit_b21 am_N 1900 G (nI N) (nI 0) (nI 0) (nI x) I L = some (v, I, L) ∧ ((v = -nI 1 ∧ tF X N P = 0) ∨ (¬ v = -nI 1 ∧ 0 < tF X N P))
  | _, _, 0, _, f, _ => by omega
  | 0, x, G + 1, e, f, hz => by
    have pw := pm_powP I L hN
    have e1 : x = P := by omega
    subst e1
    exact ⟨-nI 1, by simp (disch := omega) only [fX12_fit_b21, fX12_fit_b21w, zz_lt, li_0, li_1, li_2, li_3, li_4, li_5, li_6, li_7, li_8, li_9, li_10, li_11, li_12, li_15, li_16, li_20, li_21, li_24, li_25, li_26, li_32, li_33, li_38, li_40, li_41, li_42, li_43, li_45, li_47, li_48, li_57, li_58, li_59, li_60, li_61, li_62, li_63, li_74, li_75, li_84, li_91, li_93, li_98, li_100, li_103, li_105, li_107, li_109, li_110, li_111, li_112, li_115, li_118, li_119, li_120, li_121, li_124, li_140, li_180, li_206, li_240, li_255, li_420, li_520, li_999, li_1000, li_1771, li_8240, li_9999, li_88200, li_1000000, li_2097151, li_31, nI_add, pk_mul, zz_sub, zz_an, nI_clamp, zz_leT, zz_leF, zz_ltT, zz_ltF, zz_eqF, zz_eqT, zz_m1, zz_m2, zz_m3, zz_m4, zz_m5, zz_m6, zz_ck, zz_bl, zz_b3, zz_b2, zz_shl, zz_bt0, zz_bt1, pk_div, Nat.zero_add, Nat.add_zero, if_true, if_false, reduceIte, Nat.mul_zero, zz_or0, zz_inT, zz_inF, pw], Or.inl ⟨rfl, hz⟩⟩
  | m + 1, x, G + 1, e, f, hz => by
    have pw := pm_powP I L hN
    have ob := pm_okb hX h am_N 1900 am_N1 L (N := N) (x := x) (by omega) (by omega)
    cases c : okb X N x
    · rw [c] at ob
      obtain ⟨v, z1, z2⟩ := pm_fit0 hX h L hN m (x + 1) G (by omega) (by omega) (by rw [tF_s, c, hz]; rfl)
      refine ⟨v, ?_, z2⟩
      rw [← z1]
      simp (disch := omega) only [fX12_fit_b21, fX12_fit_b21w, fX12_fit_b51, zz_lt, li_0, li_1, li_2, li_3, li_4, li_5, li_6, li_7, li_8, li_9, li_10, li_11, li_12, li_15, li_16, li_20, li_21, li_24, li_25, li_26, li_32, li_33, li_38, li_40, li_41, li_42, li_43, li_45, li_47, li_48, li_57, li_58, li_59, li_60, li_61, li_62, li_63, li_74, li_75, li_84, li_91, li_93, li_98, li_100, li_103, li_105, li_107, li_109, li_110, li_111, li_112, li_115, li_118, li_119, li_120, li_121, li_124, li_140, li_180, li_206, li_240, li_255, li_420, li_520, li_999, li_1000, li_1771, li_8240, li_9999, li_88200, li_1000000, li_2097151, li_31, nI_add, pk_mul, zz_sub, zz_an, nI_clamp, zz_leT, zz_leF, zz_ltT, zz_ltF, zz_eqF, zz_eqT, zz_m1, zz_m2, zz_m3, zz_m4, zz_m5, zz_m6, zz_ck, zz_bl, zz_b3, zz_b2, zz_shl, zz_bt0, zz_bt1, pk_div, Nat.zero_add, Nat.add_zero, if_true, if_false, reduceIte, Nat.mul_zero, zz_or0, zz_inT, zz_inF, pw, ob, Bool.toNat_false]
    · rw [c] at ob
      refine ⟨nI x, by simp (disch := omega) only [fX12_fit_b21, fX12_fit_b21w, zz_lt, li_0, li_1, li_2, li_3, li_4, li_5, li_6, li_7, li_8, li_9, li_10, li_11, li_12, li_15, li_16, li_20, li_21, li_24, li_25, li_26, li_32, li_33, li_38, li_40, li_41, li_42, li_43, li_45, li_47, li_48, li_57, li_58, li_59, li_60, li_61, li_62, li_63, li_74, li_75, li_84, li_91, li_93, li_98, li_100, li_103, li_105, li_107, li_109, li_110, li_111, li_112, li_115, li_118, li_119, li_120, li_121, li_124, li_140, li_180, li_206, li_240, li_255, li_420, li_520, li_999, li_1000, li_1771, li_8240, li_9999, li_88200, li_1000000, li_2097151, li_31, nI_add, pk_mul, zz_sub, zz_an, nI_clamp, zz_leT, zz_leF, zz_ltT, zz_ltF, zz_eqF, zz_eqT, zz_m1, zz_m2, zz_m3, zz_m4, zz_m5, zz_m6, zz_ck, zz_bl, zz_b3, zz_b2, zz_shl, zz_bt0, zz_bt1, pk_div, Nat.zero_add, Nat.add_zero, if_true, if_false, reduceIte, Nat.mul_zero, zz_or0, zz_inT, zz_inF, pw, ob, Bool.toNat_true], Or.inr ⟨by rw [zz_m1 (by omega)]; exact not_false, ?_⟩⟩
      have := tF_mono X N m (x + 1)
      rw [show x + 1 + m = P by omega, tF_s, c, if_pos rfl] at this
      omega
def s23 (k j : Nat) : Bool := match k with | 23 => true | _ => false
theorem MX_23 {I I' : am_I} {X : Nat → Nat → Nat} (h : MX I X) (a : am_ag s23 I I') : MX I' X := by
  unfold MX at *
  rw [a 0 39 rfl, funext (fun j => a 21 j rfl), funext (fun j => a 22 j rfl)]
  exact h
theorem ag_23 {I I' : am_I} (a : am_ag s23 I I') : am_ag scrM I I' := ag_wk a (fun k j h => by
  unfold s23
  split
  · exact absurd h (by simp [scrM])
  · rfl)
theorem pm_as64 {X : Nat → Nat → Nat} (hX : GX X) (n d : Nat) (hn : 100 < n) (L : am_L) {N x : Nat} (hN : N ≤ 3) (hx : x < 9999) (hok : okb X N x = true) (T : Nat → Nat) (hT : ∀ i, T i ≤ 10000) (k53 : Int32 → Int32 → Int32 → am_I → am_L → Option (Int32 × am_I × am_L)) (a2 : Int32) : ∀ (j k F : Nat) (I : am_I), k + j = 21 → j < F → MX I X → (∀ i, i < 4 * k → I 23 i = nI (T i + (if i % 4 = cn (i / 4) N x then 1 else 0))) → (∀ i, 4 * k ≤ i → i < 84 → I 23 i = nI (T i)) → ∃ I', fX12_ask_b64 n d k53 F (nI N) a2 (nI x) (nI k) I L = k53 (nI N) a2 (nI (x + 1)) I' L ∧ (∀ i, i < 84 → I' 23 i = nI (T i + (if i % 4 = cn (i / 4) N x then 1 else 0))) ∧ am_ag s23 I I'
  | _, _, 0, _, _, f, _, _, _ => by omega
  | 0, k, F + 1, I, e, f, hm, h1, h2 => by
    have ob := pm_okb hX hm n d hn L (N := N) (x := x) hN (by omega)
    rw [hok] at ob
    exact ⟨I, by simp (disch := omega) only [fX12_ask_b64, fX12_ask_b64w, fX12_ask_b107, zz_lt, li_0, li_1, li_2, li_3, li_4, li_5, li_6, li_7, li_8, li_9, li_10, li_11, li_12, li_15, li_16, li_20, li_21, li_24, li_25, li_26, li_32, li_33, li_38, li_40, li_41, li_42, li_43, li_45, li_47, li_48, li_57, li_58, li_59, li_60, li_61, li_62, li_63, li_74, li_75, li_84, li_91, li_93, li_98, li_100, li_103, li_105, li_107, li_109, li_110, li_111, li_112, li_115, li_118, li_119, li_120, li_121, li_124, li_140, li_180, li_206, li_240, li_255, li_420, li_520, li_999, li_1000, li_1771, li_8240, li_9999, li_88200, li_1000000, li_2097151, li_31, nI_add, pk_mul, zz_sub, zz_an, nI_clamp, zz_leT, zz_leF, zz_ltT, zz_ltF, zz_eqF, zz_eqT, zz_m1, zz_m2, zz_m3, zz_m4, zz_m5, zz_m6, zz_ck, zz_bl, zz_b3, zz_b2, zz_shl, zz_bt0, zz_bt1, pk_div, Nat.zero_add, Nat.add_zero, if_true, if_false, reduceIte, Nat.mul_zero, zz_or0, zz_inT, zz_inF, ob, Bool.toNat_true], fun i hi => h1 i (by omega), ag_rf⟩
  | j + 1, k, F + 1, I, e, f, hm, h1, h2 => by
    have ob := pm_okb hX hm n d hn L (N := N) (x := x) hN (by omega)
    rw [hok] at ob
    have hs : so N x 20 = true := by
      unfold okb at hok
      cases c : so N x 20
      · rw [c, Bool.false_and] at hok; cases hok
      · rfl
    have wi := pm_wi n d (by omega) I L (N := N) (k := k) (x := x) hN (by omega) (by omega)
    rw [if_pos hs] at wi
    have cl := cn_le k N x
    have hv := h2 (4 * k + cn k N x) (by omega) (by omega)
    obtain ⟨I', w1, w2, w3⟩ := pm_as64 hX n d hn L hN hx hok T hT k53 a2 j (k + 1) F (am_up I 23 (4 * k + cn k N x) (nI (T (4 * k + cn k N x) + 1))) (by omega) (by omega) (MX_23 hm (ag_up ag_rf rfl)) (fun i hi => by
      by_cases c : i = 4 * k + cn k N x
      · rw [up_s c, if_pos (by rw [c, show (4 * k + cn k N x) % 4 = cn k N x by omega, show (4 * k + cn k N x) / 4 = k by omega]), c]
      · rw [up_n c]
        by_cases c2 : i < 4 * k
        · exact h1 i c2
        · have ek : i / 4 = k := by omega
          rw [h2 i (by omega) (by omega), ek, if_neg (by omega), Nat.add_zero]) (fun i hi hi2 => by rw [up_n (by omega)]; exact h2 i (by omega) hi2)
    refine ⟨I', ?_, w2, ag_tr (ag_up ag_rf rfl) w3⟩
    rw [← w1]
    simp (disch := omega) only [fX12_ask_b64, fX12_ask_b64w, zz_lt, li_0, li_1, li_2, li_3, li_4, li_5, li_6, li_7, li_8, li_9, li_10, li_11, li_12, li_15, li_16, li_20, li_21, li_24, li_25, li_26, li_32, li_33, li_38, li_40, li_41, li_42, li_43, li_45, li_47, li_48, li_57, li_58, li_59, li_60, li_61, li_62, li_63, li_74, li_75, li_84, li_91, li_93, li_98, li_100, li_103, li_105, li_107, li_109, li_110, li_111, li_112, li_115, li_118, li_119, li_120, li_121, li_124, li_140, li_180, li_206, li_240, li_255, li_420, li_520, li_999, li_1000, li_1771, li_8240, li_9999, li_88200, li_1000000, li_2097151, li_31, nI_add, pk_mul, zz_sub, zz_an, nI_clamp, zz_leT, zz_leF, zz_ltT, zz_ltF, zz_eqF, zz_eqT, zz_m1, zz_m2, zz_m3, zz_m4, zz_m5, zz_m6, zz_ck, zz_bl, zz_b3, zz_b2, zz_shl, zz_bt0, zz_bt1, pk_div, Nat.zero_add, Nat.add_zero, if_true, if_false, reduceIte, Nat.mul_zero, zz_or0, zz_inT, zz_inF, ob, wi, hv, Bool.toNat_true]
theorem pm_as53 {X : Nat → Nat → Nat} (hX : GX X) {N P : Nat} (hN : (N = 1 ∧ P = 21) ∨ (N = 2 ∧ P = 441) ∨ (N = 3 ∧ P = 9261)) (L : am_L) (a2 : Int32) : ∀ (m x G : Nat) (I : am_I), x + m = P → m < G → MX I X → (∀ i, i < 84 → I 23 i = nI (tT X N x i)) → ∃ I', fX12_ask_b53 am_N 1900 G (nI N) a2 (nI x) I L = fX12_ask_b121 am_N 1900 am_N a2 (-nI 1) (nI 0) (nI 0) I' L ∧ (∀ i, i < 84 → I' 23 i = nI (tT X N P i)) ∧ am_ag s23 I I'
  | _, _, 0, _, _, f, _, _ => by omega
  | 0, x, G + 1, I, e, f, hm, h => by
    have pw := pm_powP I L hN
    have e1 : x = P := by omega
    subst e1
    exact ⟨I, by simp (disch := omega) only [fX12_ask_b53, fX12_ask_b53w, zz_lt, li_0, li_1, li_2, li_3, li_4, li_5, li_6, li_7, li_8, li_9, li_10, li_11, li_12, li_15, li_16, li_20, li_21, li_24, li_25, li_26, li_32, li_33, li_38, li_40, li_41, li_42, li_43, li_45, li_47, li_48, li_57, li_58, li_59, li_60, li_61, li_62, li_63, li_74, li_75, li_84, li_91, li_93, li_98, li_100, li_103, li_105, li_107, li_109, li_110, li_111, li_112, li_115, li_118, li_119, li_120, li_121, li_124, li_140, li_180, li_206, li_240, li_255, li_420, li_520, li_999, li_1000, li_1771, li_8240, li_9999, li_88200, li_1000000, li_2097151, li_31, nI_add, pk_mul, zz_sub, zz_an, nI_clamp, zz_leT, zz_leF, zz_ltT, zz_ltF, zz_eqF, zz_eqT, zz_m1, zz_m2, zz_m3, zz_m4, zz_m5, zz_m6, zz_ck, zz_bl, zz_b3, zz_b2, zz_shl, zz_bt0, zz_bt1, pk_div, Nat.zero_add, Nat.add_zero, if_true, if_false, reduceIte, Nat.mul_zero, zz_or0, zz_inT, zz_inF, pw], h, ag_rf⟩
  | m + 1, x, G + 1, I, e, f, hm, h => by
    have pw := pm_powP I L hN
    have ob := pm_okb hX hm am_N 1900 am_N1 L (N := N) (x := x) (by omega) (by omega)
    have st : fX12_ask_b53 am_N 1900 (G + 1) (nI N) a2 (nI x) I L = fX12_ask_b64 am_N 1900 (fX12_ask_b53 am_N 1900 G) am_N (nI N) a2 (nI x) (nI 0) I L := by
      simp (disch := omega) only [fX12_ask_b53, fX12_ask_b53w, zz_lt, li_0, li_1, li_2, li_3, li_4, li_5, li_6, li_7, li_8, li_9, li_10, li_11, li_12, li_15, li_16, li_20, li_21, li_24, li_25, li_26, li_32, li_33, li_38, li_40, li_41, li_42, li_43, li_45, li_47, li_48, li_57, li_58, li_59, li_60, li_61, li_62, li_63, li_74, li_75, li_84, li_91, li_93, li_98, li_100, li_103, li_105, li_107, li_109, li_110, li_111, li_112, li_115, li_118, li_119, li_120, li_121, li_124, li_140, li_180, li_206, li_240, li_255, li_420, li_520, li_999, li_1000, li_1771, li_8240, li_9999, li_88200, li_1000000, li_2097151, li_31, nI_add, pk_mul, zz_sub, zz_an, nI_clamp, zz_leT, zz_leF, zz_ltT, zz_ltF, zz_eqF, zz_eqT, zz_m1, zz_m2, zz_m3, zz_m4, zz_m5, zz_m6, zz_ck, zz_bl, zz_b3, zz_b2, zz_shl, zz_bt0, zz_bt1, pk_div, Nat.zero_add, Nat.add_zero, if_true, if_false, reduceIte, Nat.mul_zero, zz_or0, zz_inT, zz_inF, pw]
    cases c : okb X N x
    · rw [c] at ob
      obtain ⟨I', w1, w2⟩ := pm_as53 hX hN L a2 m (x + 1) G I (by omega) (by omega) hm (fun i hi => by rw [tT_s, c, if_neg (fun z => by cases z.1), Nat.add_zero]; exact h i hi)
      refine ⟨I', ?_, w2⟩
      rw [← w1, st]
      obtain ⟨F, hF⟩ := am_N_ge 1 (by omega)
      have s2 : ∀ F, fX12_ask_b64 am_N 1900 (fX12_ask_b53 am_N 1900 G) (F + 1) (nI N) a2 (nI x) (nI 0) I L = fX12_ask_b53 am_N 1900 G (nI N) a2 (nI (x + 1)) I L := fun F => by
        simp (disch := omega) only [fX12_ask_b64, fX12_ask_b64w, fX12_ask_b107, zz_lt, li_0, li_1, li_2, li_3, li_4, li_5, li_6, li_7, li_8, li_9, li_10, li_11, li_12, li_15, li_16, li_20, li_21, li_24, li_25, li_26, li_32, li_33, li_38, li_40, li_41, li_42, li_43, li_45, li_47, li_48, li_57, li_58, li_59, li_60, li_61, li_62, li_63, li_74, li_75, li_84, li_91, li_93, li_98, li_100, li_103, li_105, li_107, li_109, li_110, li_111, li_112, li_115, li_118, li_119, li_120, li_121, li_124, li_140, li_180, li_206, li_240, li_255, li_420, li_520, li_999, li_1000, li_1771, li_8240, li_9999, li_88200, li_1000000, li_2097151, li_31, nI_add, pk_mul, zz_sub, zz_an, nI_clamp, zz_leT, zz_leF, zz_ltT, zz_ltF, zz_eqF, zz_eqT, zz_m1, zz_m2, zz_m3, zz_m4, zz_m5, zz_m6, zz_ck, zz_bl, zz_b3, zz_b2, zz_shl, zz_bt0, zz_bt1, pk_div, Nat.zero_add, Nat.add_zero, if_true, if_false, reduceIte, Nat.mul_zero, zz_or0, zz_inT, zz_inF, ob, Bool.toNat_false]
      have s3 := s2 F
      rw [Nat.add_comm F 1, ← hF] at s3
      exact s3
    · obtain ⟨J, y1, y2, y3⟩ := pm_as64 hX am_N 1900 am_N1 L (N := N) (x := x) (by omega) (by omega) c (tT X N x) (fun i => by have := tT_le X N i x; omega) (fX12_ask_b53 am_N 1900 G) a2 21 0 am_N I (by omega) (by unfold am_N; omega) hm (fun i hi => by omega) (fun i _ hi => h i hi)
      obtain ⟨I', w1, w2, w3⟩ := pm_as53 hX hN L a2 m (x + 1) G J (by omega) (by omega) (MX_23 hm y3) (fun i hi => by rw [y2 i hi, tT_s, c]; simp only [true_and])
      refine ⟨I', ?_, w2, ag_tr y3 w3⟩
      rw [← w1, st, y1]
theorem pm_as32 {X : Nat → Nat → Nat} (hX : GX X) {N P : Nat} (hN : (N = 1 ∧ P = 21) ∨ (N = 2 ∧ P = 441) ∨ (N = 3 ∧ P = 9261)) (L : am_L) (a2 : Int32) : ∀ (j i F : Nat) (I : am_I), i + j = 84 → j < F → MX I X → (∀ t, t < i → I 23 t = nI 0) → ∃ I', fX12_ask_b32 am_N 1900 F (nI N) a2 (nI i) I L = fX12_ask_b121 am_N 1900 am_N a2 (-nI 1) (nI 0) (nI 0) I' L ∧ (∀ i, i < 84 → I' 23 i = nI (tT X N P i)) ∧ am_ag s23 I I'
  | _, _, 0, _, _, f, _, _ => by omega
  | 0, i, F + 1, I, e, f, hm, h => by
    obtain ⟨I', w1, w2⟩ := pm_as53 hX hN L a2 P 0 am_N I (by omega) (by unfold am_N; omega) hm (fun t ht => h t (by omega))
    refine ⟨I', ?_, w2⟩
    rw [← w1]
    simp (disch := omega) only [fX12_ask_b32, fX12_ask_b32w, zz_lt, li_0, li_1, li_2, li_3, li_4, li_5, li_6, li_7, li_8, li_9, li_10, li_11, li_12, li_15, li_16, li_20, li_21, li_24, li_25, li_26, li_32, li_33, li_38, li_40, li_41, li_42, li_43, li_45, li_47, li_48, li_57, li_58, li_59, li_60, li_61, li_62, li_63, li_74, li_75, li_84, li_91, li_93, li_98, li_100, li_103, li_105, li_107, li_109, li_110, li_111, li_112, li_115, li_118, li_119, li_120, li_121, li_124, li_140, li_180, li_206, li_240, li_255, li_420, li_520, li_999, li_1000, li_1771, li_8240, li_9999, li_88200, li_1000000, li_2097151, li_31, nI_add, pk_mul, zz_sub, zz_an, nI_clamp, zz_leT, zz_leF, zz_ltT, zz_ltF, zz_eqF, zz_eqT, zz_m1, zz_m2, zz_m3, zz_m4, zz_m5, zz_m6, zz_ck, zz_bl, zz_b3, zz_b2, zz_shl, zz_bt0, zz_bt1, pk_div, Nat.zero_add, Nat.add_zero, if_true, if_false, reduceIte, Nat.mul_zero, zz_or0, zz_inT, zz_inF]
  | j + 1, i, F + 1, I, e, f, hm, h => by
    obtain ⟨I', w1, w2, w3⟩ := pm_as32 hX hN L a2 j (i + 1) F (am_up I 23 i (nI 0)) (by omega) (by omega) (MX_23 hm (ag_up ag_rf rfl)) (fun t ht => by
      by_cases c : t = i
      · rw [up_s c]
      · rw [up_n c]; exact h t (by omega))
    refine ⟨I', ?_, w2, ag_tr (ag_up ag_rf rfl) w3⟩
    rw [← w1]
    simp (disch := omega) only [fX12_ask_b32, fX12_ask_b32w, zz_lt, li_0, li_1, li_2, li_3, li_4, li_5, li_6, li_7, li_8, li_9, li_10, li_11, li_12, li_15, li_16, li_20, li_21, li_24, li_25, li_26, li_32, li_33, li_38, li_40, li_41, li_42, li_43, li_45, li_47, li_48, li_57, li_58, li_59, li_60, li_61, li_62, li_63, li_74, li_75, li_84, li_91, li_93, li_98, li_100, li_103, li_105, li_107, li_109, li_110, li_111, li_112, li_115, li_118, li_119, li_120, li_121, li_124, li_140, li_180, li_206, li_240, li_255, li_420, li_520, li_999, li_1000, li_1771, li_8240, li_9999, li_88200, li_1000000, li_2097151, li_31, nI_add, pk_mul, zz_sub, zz_an, nI_clamp, zz_leT, zz_leF, zz_ltT, zz_ltF, zz_eqF, zz_eqT, zz_m1, zz_m2, zz_m3, zz_m4, zz_m5, zz_m6, zz_ck, zz_bl, zz_b3, zz_b2, zz_shl, zz_bt0, zz_bt1, pk_div, Nat.zero_add, Nat.add_zero, if_true, if_false, reduceIte, Nat.mul_zero, zz_or0, zz_inT, zz_inF]
/-- the most frequent answer -/
def mfa (T : Nat → Nat) (k : Nat) : Nat → Nat
  | 0 => 0
  | a + 1 => max (mfa T k a) (T (4 * k + a))
def bq (T : Nat → Nat) : Nat → Nat
  | 0 => 0
  | i + 1 => if mfa T (i + 1) 4 < mfa T (bq T i) 4 then i + 1 else bq T i
theorem bq_t {T : Nat → Nat} {i : Nat} (c : mfa T (i + 1) 4 < mfa T (bq T i) 4) : bq T (i + 1) = i + 1 := if_pos c
theorem bq_f {T : Nat → Nat} {i : Nat} (c : ¬ mfa T (i + 1) 4 < mfa T (bq T i) 4) : bq T (i + 1) = bq T i := if_neg c
theorem mfa_le {T : Nat → Nat} (hT : ∀ i, T i ≤ 10000) (k : Nat) : ∀ a, mfa T k a ≤ 10000
  | 0 => by unfold mfa; omega
  | a + 1 => by
    have := mfa_le hT k a
    have := hT (4 * k + a)
    unfold mfa
    omega
theorem bq_le (T : Nat → Nat) : ∀ i, bq T i ≤ i
  | 0 => Nat.le_refl _
  | i + 1 => by
    have := bq_le T i
    unfold bq
    split <;> omega
theorem pc_mfL (n d : Nat) (L : am_L) {I : am_I} {T : Nat → Nat} (hT : ∀ i, T i ≤ 10000) (h : ∀ i, i < 84 → I 64 i = nI (T i)) {k : Nat} (hk : k ≤ 20) : ∀ (j a F : Nat), a + j = 4 → j < F → fX4_mostFrequent_b4 n d F (nI k) (nI (mfa T k a)) (nI a) I L = some (nI (mfa T k 4), I, L)
  | _, _, 0, _, f => by omega
  | 0, a, F + 1, e, f => by
    have e1 : a = 4 := by omega
    subst e1
    simp (disch := omega) only [fX4_mostFrequent_b4, fX4_mostFrequent_b4w, zz_lt, li_0, li_1, li_2, li_3, li_4, li_5, li_6, li_7, li_8, li_9, li_10, li_11, li_12, li_15, li_16, li_20, li_21, li_24, li_25, li_26, li_32, li_33, li_38, li_40, li_41, li_42, li_43, li_45, li_47, li_48, li_57, li_58, li_59, li_60, li_61, li_62, li_63, li_74, li_75, li_84, li_91, li_93, li_98, li_100, li_103, li_105, li_107, li_109, li_110, li_111, li_112, li_115, li_118, li_119, li_120, li_121, li_124, li_140, li_180, li_206, li_240, li_255, li_420, li_520, li_999, li_1000, li_1771, li_8240, li_9999, li_88200, li_1000000, li_2097151, li_31, nI_add, pk_mul, zz_sub, zz_an, nI_clamp, zz_leT, zz_leF, zz_ltT, zz_ltF, zz_eqF, zz_eqT, zz_m1, zz_m2, zz_m3, zz_m4, zz_m5, zz_m6, zz_ck, zz_bl, zz_b3, zz_b2, zz_shl, zz_bt0, zz_bt1, pk_div, Nat.zero_add, Nat.add_zero, if_true, if_false, reduceIte, Nat.mul_zero, zz_or0, zz_inT, zz_inF]
  | j + 1, a, F + 1, e, f => by
    have ih := pc_mfL n d L hT h hk j (a + 1) F (by omega) (by omega)
    have b1 := mfa_le hT k a
    have b2 := hT (4 * k + a)
    have hv : I 64 (k * 4 + a) = nI (T (4 * k + a)) := by rw [show k * 4 + a = 4 * k + a by omega]; exact h _ (by omega)
    have jm := fun I L => J_max n d (mfa T k a) (T (4 * k + a)) I L (by omega) (by omega)
    rw [← ih]
    simp (disch := omega) only [fX4_mostFrequent_b4, fX4_mostFrequent_b4w, zz_lt, li_0, li_1, li_2, li_3, li_4, li_5, li_6, li_7, li_8, li_9, li_10, li_11, li_12, li_15, li_16, li_20, li_21, li_24, li_25, li_26, li_32, li_33, li_38, li_40, li_41, li_42, li_43, li_45, li_47, li_48, li_57, li_58, li_59, li_60, li_61, li_62, li_63, li_74, li_75, li_84, li_91, li_93, li_98, li_100, li_103, li_105, li_107, li_109, li_110, li_111, li_112, li_115, li_118, li_119, li_120, li_121, li_124, li_140, li_180, li_206, li_240, li_255, li_420, li_520, li_999, li_1000, li_1771, li_8240, li_9999, li_88200, li_1000000, li_2097151, li_31, nI_add, pk_mul, zz_sub, zz_an, nI_clamp, zz_leT, zz_leF, zz_ltT, zz_ltF, zz_eqF, zz_eqT, zz_m1, zz_m2, zz_m3, zz_m4, zz_m5, zz_m6, zz_ck, zz_bl, zz_b3, zz_b2, zz_shl, zz_bt0, zz_bt1, pk_div, Nat.zero_add, Nat.add_zero, if_true, if_false, reduceIte, Nat.mul_zero, zz_or0, zz_inT, zz_inF, hv, jm, mfa]
theorem pc_mf (n d : Nat) (hn : 8 < n) (L : am_L) {I : am_I} {T : Nat → Nat} (hT : ∀ i, T i ≤ 10000) (h : ∀ i, i < 84 → I 64 i = nI (T i)) {k : Nat} (hk : k ≤ 20) : fX4_mostFrequent n d (nI k) I L = some (nI (mfa T k 4), I, L) := pc_mfL n d L hT h hk 4 0 n (by omega) (by omega)
theorem pc_bqL (n d : Nat) (hn : 8 < n) (L : am_L) {I : am_I} {T : Nat → Nat} (hT : ∀ i, T i ≤ 10000) (h : ∀ i, i < 84 → I 64 i = nI (T i)) : ∀ (j i F : Nat), i + j = 20 → j < F → fX4_bestQuestion_b4 n d F (nI (bq T i)) (nI (i + 1)) I L = some (nI (bq T 20), I, L)
  | _, _, 0, _, f => by omega
  | 0, i, F + 1, e, f => by
    have e1 : i = 20 := by omega
    rw [e1]
    simp (disch := omega) only [fX4_bestQuestion_b4, fX4_bestQuestion_b4w, zz_lt, li_0, li_1, li_2, li_3, li_4, li_5, li_6, li_7, li_8, li_9, li_10, li_11, li_12, li_15, li_16, li_20, li_21, li_24, li_25, li_26, li_32, li_33, li_38, li_40, li_41, li_42, li_43, li_45, li_47, li_48, li_57, li_58, li_59, li_60, li_61, li_62, li_63, li_74, li_75, li_84, li_91, li_93, li_98, li_100, li_103, li_105, li_107, li_109, li_110, li_111, li_112, li_115, li_118, li_119, li_120, li_121, li_124, li_140, li_180, li_206, li_240, li_255, li_420, li_520, li_999, li_1000, li_1771, li_8240, li_9999, li_88200, li_1000000, li_2097151, li_31, nI_add, pk_mul, zz_sub, zz_an, nI_clamp, zz_leT, zz_leF, zz_ltT, zz_ltF, zz_eqF, zz_eqT, zz_m1, zz_m2, zz_m3, zz_m4, zz_m5, zz_m6, zz_ck, zz_bl, zz_b3, zz_b2, zz_shl, zz_bt0, zz_bt1, pk_div, Nat.zero_add, Nat.add_zero, if_true, if_false, reduceIte, Nat.mul_zero, zz_or0, zz_inT, zz_inF]
  | j + 1, i, F + 1, e, f => by
    have ih := pc_bqL n d hn L hT h j (i + 1) F (by omega) (by omega)
    have bl := bq_le T i
    have m1 := pc_mf n d hn L hT h (k := i + 1) (by omega)
    have m2 := pc_mf n d hn L hT h (k := bq T i) (by omega)
    have b1 := mfa_le hT (i + 1) 4
    have b2 := mfa_le hT (bq T i) 4
    by_cases c : mfa T (i + 1) 4 < mfa T (bq T i) 4
    · rw [bq_t c] at ih
      rw [← ih]
      simp (disch := omega) only [fX4_bestQuestion_b4, fX4_bestQuestion_b4w, fX4_bestQuestion_b25, zz_lt, li_0, li_1, li_2, li_3, li_4, li_5, li_6, li_7, li_8, li_9, li_10, li_11, li_12, li_15, li_16, li_20, li_21, li_24, li_25, li_26, li_32, li_33, li_38, li_40, li_41, li_42, li_43, li_45, li_47, li_48, li_57, li_58, li_59, li_60, li_61, li_62, li_63, li_74, li_75, li_84, li_91, li_93, li_98, li_100, li_103, li_105, li_107, li_109, li_110, li_111, li_112, li_115, li_118, li_119, li_120, li_121, li_124, li_140, li_180, li_206, li_240, li_255, li_420, li_520, li_999, li_1000, li_1771, li_8240, li_9999, li_88200, li_1000000, li_2097151, li_31, nI_add, pk_mul, zz_sub, zz_an, nI_clamp, zz_leT, zz_leF, zz_ltT, zz_ltF, zz_eqF, zz_eqT, zz_m1, zz_m2, zz_m3, zz_m4, zz_m5, zz_m6, zz_ck, zz_bl, zz_b3, zz_b2, zz_shl, zz_bt0, zz_bt1, pk_div, Nat.zero_add, Nat.add_zero, if_true, if_false, reduceIte, Nat.mul_zero, zz_or0, zz_inT, zz_inF, m1, m2]
    · rw [bq_f c] at ih
      rw [← ih]
      simp (disch := omega) only [fX4_bestQuestion_b4, fX4_bestQuestion_b4w, fX4_bestQuestion_b25, zz_lt, li_0, li_1, li_2, li_3, li_4, li_5, li_6, li_7, li_8, li_9, li_10, li_11, li_12, li_15, li_16, li_20, li_21, li_24, li_25, li_26, li_32, li_33, li_38, li_40, li_41, li_42, li_43, li_45, li_47, li_48, li_57, li_58, li_59, li_60, li_61, li_62, li_63, li_74, li_75, li_84, li_91, li_93, li_98, li_100, li_103, li_105, li_107, li_109, li_110, li_111, li_112, li_115, li_118, li_119, li_120, li_121, li_124, li_140, li_180, li_206, li_240, li_255, li_420, li_520, li_999, li_1000, li_1771, li_8240, li_9999, li_88200, li_1000000, li_2097151, li_31, nI_add, pk_mul, zz_sub, zz_an, nI_clamp, zz_leT, zz_leF, zz_ltT, zz_ltF, zz_eqF, zz_eqT, zz_m1, zz_m2, zz_m3, zz_m4, zz_m5, zz_m6, zz_ck, zz_bl, zz_b3, zz_b2, zz_shl, zz_bt0, zz_bt1, pk_div, Nat.zero_add, Nat.add_zero, if_true, if_false, reduceIte, Nat.mul_zero, zz_or0, zz_inT, zz_inF, m1, m2]
theorem pm_mfL (n d : Nat) (L : am_L) {I : am_I} {T : Nat → Nat} (hT : ∀ i, T i ≤ 10000) (h : ∀ i, i < 84 → I 23 i = nI (T i)) {k : Nat} (hk : k ≤ 20) (k121 : Int32 → Int32 → Int32 → Int32 → am_I → am_L → Option (Int32 × am_I × am_L)) (a2 a3 a4 : Int32) : ∀ (j a F : Nat), a + j = 4 → j < F → fX12_ask_b134 n d k121 F a2 a3 a4 (nI k) (nI (mfa T k a)) (nI a) I L = (if a3 = -nI 1 then fX12_ask_b177 n d k121 a2 (nI k) (nI (mfa T k 4)) I L else if a4 ≤ nI (mfa T k 4) then fX12_ask_b184 n d k121 a2 a3 a4 (nI k) I L else fX12_ask_b177 n d k121 a2 (nI k) (nI (mfa T k 4)) I L)
  | _, _, 0, _, f => by omega
  | 0, a, F + 1, e, f => by
    have e1 : a = 4 := by omega
    subst e1
    by_cases c1 : a3 = -nI 1
    · simp (disch := omega) only [fX12_ask_b134, fX12_ask_b134w, zz_lt, li_0, li_1, li_2, li_3, li_4, li_5, li_6, li_7, li_8, li_9, li_10, li_11, li_12, li_15, li_16, li_20, li_21, li_24, li_25, li_26, li_32, li_33, li_38, li_40, li_41, li_42, li_43, li_45, li_47, li_48, li_57, li_58, li_59, li_60, li_61, li_62, li_63, li_74, li_75, li_84, li_91, li_93, li_98, li_100, li_103, li_105, li_107, li_109, li_110, li_111, li_112, li_115, li_118, li_119, li_120, li_121, li_124, li_140, li_180, li_206, li_240, li_255, li_420, li_520, li_999, li_1000, li_1771, li_8240, li_9999, li_88200, li_1000000, li_2097151, li_31, nI_add, pk_mul, zz_sub, zz_an, nI_clamp, zz_leT, zz_leF, zz_ltT, zz_ltF, zz_eqF, zz_eqT, zz_m1, zz_m2, zz_m3, zz_m4, zz_m5, zz_m6, zz_ck, zz_bl, zz_b3, zz_b2, zz_shl, zz_bt0, zz_bt1, pk_div, Nat.zero_add, Nat.add_zero, if_true, if_false, reduceIte, Nat.mul_zero, zz_or0, zz_inT, zz_inF, c1]
    · by_cases c2 : a4 ≤ nI (mfa T k 4) <;> simp (disch := omega) only [fX12_ask_b134, fX12_ask_b134w, zz_lt, li_0, li_1, li_2, li_3, li_4, li_5, li_6, li_7, li_8, li_9, li_10, li_11, li_12, li_15, li_16, li_20, li_21, li_24, li_25, li_26, li_32, li_33, li_38, li_40, li_41, li_42, li_43, li_45, li_47, li_48, li_57, li_58, li_59, li_60, li_61, li_62, li_63, li_74, li_75, li_84, li_91, li_93, li_98, li_100, li_103, li_105, li_107, li_109, li_110, li_111, li_112, li_115, li_118, li_119, li_120, li_121, li_124, li_140, li_180, li_206, li_240, li_255, li_420, li_520, li_999, li_1000, li_1771, li_8240, li_9999, li_88200, li_1000000, li_2097151, li_31, nI_add, pk_mul, zz_sub, zz_an, nI_clamp, zz_leT, zz_leF, zz_ltT, zz_ltF, zz_eqF, zz_eqT, zz_m1, zz_m2, zz_m3, zz_m4, zz_m5, zz_m6, zz_ck, zz_bl, zz_b3, zz_b2, zz_shl, zz_bt0, zz_bt1, pk_div, Nat.zero_add, Nat.add_zero, if_true, if_false, reduceIte, Nat.mul_zero, zz_or0, zz_inT, zz_inF, c1, c2]
  | j + 1, a, F + 1, e, f => by
    have ih := pm_mfL n d L hT h hk k121 a2 a3 a4 j (a + 1) F (by omega) (by omega)
    have b1 := mfa_le hT k a
    have b2 := hT (4 * k + a)
    have hv := h (4 * k + a) (by omega)
    have jm := fun I L => J_max n d (mfa T k a) (T (4 * k + a)) I L (by omega) (by omega)
    rw [← ih]
    simp (disch := omega) only [fX12_ask_b134, fX12_ask_b134w, zz_lt, li_0, li_1, li_2, li_3, li_4, li_5, li_6, li_7, li_8, li_9, li_10, li_11, li_12, li_15, li_16, li_20, li_21, li_24, li_25, li_26, li_32, li_33, li_38, li_40, li_41, li_42, li_43, li_45, li_47, li_48, li_57, li_58, li_59, li_60, li_61, li_62, li_63, li_74, li_75, li_84, li_91, li_93, li_98, li_100, li_103, li_105, li_107, li_109, li_110, li_111, li_112, li_115, li_118, li_119, li_120, li_121, li_124, li_140, li_180, li_206, li_240, li_255, li_420, li_520, li_999, li_1000, li_1771, li_8240, li_9999, li_88200, li_1000000, li_2097151, li_31, nI_add, pk_mul, zz_sub, zz_an, nI_clamp, zz_leT, zz_leF, zz_ltT, zz_ltF, zz_eqF, zz_eqT, zz_m1, zz_m2, zz_m3, zz_m4, zz_m5, zz_m6, zz_ck, zz_bl, zz_b3, zz_b2, zz_shl, zz_bt0, zz_bt1, pk_div, Nat.zero_add, Nat.add_zero, if_true, if_false, reduceIte, Nat.mul_zero, zz_or0, zz_inT, zz_inF, hv, jm, mfa]
theorem pm_bqL (n d : Nat) (hn : 8 < n) (L : am_L) {I : am_I} {T : Nat → Nat} (hT : ∀ i, T i ≤ 10000) (h : ∀ i, i < 84 → I 23 i = nI (T i)) (a2 : Int32) : ∀ (j i F : Nat), i + j = 20 → j < F → fX12_ask_b121 n d F a2 (nI (bq T i)) (nI (mfa T (bq T i) 4)) (nI (i + 1)) I L = some (if a2 = nI 0 then nI (bq T 20) else nI (mfa T (bq T 20) 4), I, L)
  | _, _, 0, _, f => by omega
  | 0, i, F + 1, e, f => by
    have e1 : i = 20 := by omega
    rw [e1]
    by_cases c : a2 = nI 0 <;> simp (disch := omega) only [fX12_ask_b121, fX12_ask_b121w, zz_lt, li_0, li_1, li_2, li_3, li_4, li_5, li_6, li_7, li_8, li_9, li_10, li_11, li_12, li_15, li_16, li_20, li_21, li_24, li_25, li_26, li_32, li_33, li_38, li_40, li_41, li_42, li_43, li_45, li_47, li_48, li_57, li_58, li_59, li_60, li_61, li_62, li_63, li_74, li_75, li_84, li_91, li_93, li_98, li_100, li_103, li_105, li_107, li_109, li_110, li_111, li_112, li_115, li_118, li_119, li_120, li_121, li_124, li_140, li_180, li_206, li_240, li_255, li_420, li_520, li_999, li_1000, li_1771, li_8240, li_9999, li_88200, li_1000000, li_2097151, li_31, nI_add, pk_mul, zz_sub, zz_an, nI_clamp, zz_leT, zz_leF, zz_ltT, zz_ltF, zz_eqF, zz_eqT, zz_m1, zz_m2, zz_m3, zz_m4, zz_m5, zz_m6, zz_ck, zz_bl, zz_b3, zz_b2, zz_shl, zz_bt0, zz_bt1, pk_div, Nat.zero_add, Nat.add_zero, if_true, if_false, reduceIte, Nat.mul_zero, zz_or0, zz_inT, zz_inF, c]
  | j + 1, i, F + 1, e, f => by
    have ih := pm_bqL n d hn L hT h a2 j (i + 1) F (by omega) (by omega)
    have bl := bq_le T i
    have m1 := pm_mfL n d L hT h (k := i + 1) (by omega) (fX12_ask_b121 n d F) a2 (nI (bq T i)) (nI (mfa T (bq T i) 4)) 4 0 n (by omega) (by omega)
    have m0 : mfa T (i + 1) 0 = 0 := rfl
    rw [m0] at m1
    have b1 := mfa_le hT (i + 1) 4
    have b2 := mfa_le hT (bq T i) 4
    have st : fX12_ask_b121 n d (F + 1) a2 (nI (bq T i)) (nI (mfa T (bq T i) 4)) (nI (i + 1)) I L = fX12_ask_b134 n d (fX12_ask_b121 n d F) n a2 (nI (bq T i)) (nI (mfa T (bq T i) 4)) (nI (i + 1)) (nI 0) (nI 0) I L := by
      simp (disch := omega) only [fX12_ask_b121, fX12_ask_b121w, zz_lt, li_0, li_1, li_2, li_3, li_4, li_5, li_6, li_7, li_8, li_9, li_10, li_11, li_12, li_15, li_16, li_20, li_21, li_24, li_25, li_26, li_32, li_33, li_38, li_40, li_41, li_42, li_43, li_45, li_47, li_48, li_57, li_58, li_59, li_60, li_61, li_62, li_63, li_74, li_75, li_84, li_91, li_93, li_98, li_100, li_103, li_105, li_107, li_109, li_110, li_111, li_112, li_115, li_118, li_119, li_120, li_121, li_124, li_140, li_180, li_206, li_240, li_255, li_420, li_520, li_999, li_1000, li_1771, li_8240, li_9999, li_88200, li_1000000, li_2097151, li_31, nI_add, pk_mul, zz_sub, zz_an, nI_clamp, zz_leT, zz_leF, zz_ltT, zz_ltF, zz_eqF, zz_eqT, zz_m1, zz_m2, zz_m3, zz_m4, zz_m5, zz_m6, zz_ck, zz_bl, zz_b3, zz_b2, zz_shl, zz_bt0, zz_bt1, pk_div, Nat.zero_add, Nat.add_zero, if_true, if_false, reduceIte, Nat.mul_zero, zz_or0, zz_inT, zz_inF]
    rw [st, m1, ← ih]
    by_cases c : mfa T (i + 1) 4 < mfa T (bq T i) 4
    · rw [bq_t c]
      simp (disch := omega) only [fX12_ask_b177, fX12_ask_b184, zz_lt, li_0, li_1, li_2, li_3, li_4, li_5, li_6, li_7, li_8, li_9, li_10, li_11, li_12, li_15, li_16, li_20, li_21, li_24, li_25, li_26, li_32, li_33, li_38, li_40, li_41, li_42, li_43, li_45, li_47, li_48, li_57, li_58, li_59, li_60, li_61, li_62, li_63, li_74, li_75, li_84, li_91, li_93, li_98, li_100, li_103, li_105, li_107, li_109, li_110, li_111, li_112, li_115, li_118, li_119, li_120, li_121, li_124, li_140, li_180, li_206, li_240, li_255, li_420, li_520, li_999, li_1000, li_1771, li_8240, li_9999, li_88200, li_1000000, li_2097151, li_31, nI_add, pk_mul, zz_sub, zz_an, nI_clamp, zz_leT, zz_leF, zz_ltT, zz_ltF, zz_eqF, zz_eqT, zz_m1, zz_m2, zz_m3, zz_m4, zz_m5, zz_m6, zz_ck, zz_bl, zz_b3, zz_b2, zz_shl, zz_bt0, zz_bt1, pk_div, Nat.zero_add, Nat.add_zero, if_true, if_false, reduceIte, Nat.mul_zero, zz_or0, zz_inT, zz_inF]
    · rw [bq_f c]
      simp (disch := omega) only [fX12_ask_b177, fX12_ask_b184, zz_lt, li_0, li_1, li_2, li_3, li_4, li_5, li_6, li_7, li_8, li_9, li_10, li_11, li_12, li_15, li_16, li_20, li_21, li_24, li_25, li_26, li_32, li_33, li_38, li_40, li_41, li_42, li_43, li_45, li_47, li_48, li_57, li_58, li_59, li_60, li_61, li_62, li_63, li_74, li_75, li_84, li_91, li_93, li_98, li_100, li_103, li_105, li_107, li_109, li_110, li_111, li_112, li_115, li_118, li_119, li_120, li_121, li_124, li_140, li_180, li_206, li_240, li_255, li_420, li_520, li_999, li_1000, li_1771, li_8240, li_9999, li_88200, li_1000000, li_2097151, li_31, nI_add, pk_mul, zz_sub, zz_an, nI_clamp, zz_leT, zz_leF, zz_ltT, zz_ltF, zz_eqF, zz_eqT, zz_m1, zz_m2, zz_m3, zz_m4, zz_m5, zz_m6, zz_ck, zz_bl, zz_b3, zz_b2, zz_shl, zz_bt0, zz_bt1, pk_div, Nat.zero_add, Nat.add_zero, if_true, if_false, reduceIte, Nat.mul_zero, zz_or0, zz_inT, zz_inF]
theorem pc_bq (n d : Nat) (hn : 100 < n) (L : am_L) {I : am_I} {T : Nat → Nat} (hT : ∀ i, T i ≤ 10000) (h : ∀ i, i < 84 → I 64 i = nI (T i)) : fX4_bestQuestion n d I L = some (nI (bq T 20), I, L) := by
  unfold fX4_bestQuestion
  rw [zz_lt, zz_lt, li_0, li_1]
  exact pc_bqL n d (by omega) L hT h 20 0 n (by omega) (by omega)
theorem pm_bq0 (n d : Nat) (hn : 100 < n) (L : am_L) {I : am_I} {T : Nat → Nat} (hT : ∀ i, T i ≤ 10000) (h : ∀ i, i < 84 → I 23 i = nI (T i)) (a2 : Int32) (F : Nat) (hF : 30 < F) : fX12_ask_b121 n d F a2 (-nI 1) (nI 0) (nI 0) I L = some (if a2 = nI 0 then nI (bq T 20) else nI (mfa T (bq T 20) 4), I, L) := by
  obtain ⟨G, rfl⟩ : ∃ G, F = G + 1 := ⟨F - 1, by omega⟩
  have m1 := pm_mfL n d L hT h (k := 0) (by omega) (fX12_ask_b121 n d G) a2 (-nI 1) (nI 0) 4 0 n (by omega) (by omega)
  have m0 : mfa T 0 0 = 0 := rfl
  rw [m0, if_pos rfl] at m1
  have bl := pm_bqL n d (by omega) L hT h a2 20 0 G (by omega) (by omega)
  have b0 : bq T 0 = 0 := rfl
  rw [b0] at bl
  have st : fX12_ask_b121 n d (G + 1) a2 (-nI 1) (nI 0) (nI 0) I L = fX12_ask_b134 n d (fX12_ask_b121 n d G) n a2 (-nI 1) (nI 0) (nI 0) (nI 0) (nI 0) I L := by
    simp (disch := omega) only [fX12_ask_b121, fX12_ask_b121w, zz_lt, li_0, li_1, li_2, li_3, li_4, li_5, li_6, li_7, li_8, li_9, li_10, li_11, li_12, li_15, li_16, li_20, li_21, li_24, li_25, li_26, li_32, li_33, li_38, li_40, li_41, li_42, li_43, li_45, li_47, li_48, li_57, li_58, li_59, li_60, li_61, li_62, li_63, li_74, li_75, li_84, li_91, li_93, li_98, li_100, li_103, li_105, li_107, li_109, li_110, li_111, li_112, li_115, li_118, li_119, li_120, li_121, li_124, li_140, li_180, li_206, li_240, li_255, li_420, li_520, li_999, li_1000, li_1771, li_8240, li_9999, li_88200, li_1000000, li_2097151, li_31, nI_add, pk_mul, zz_sub, zz_an, nI_clamp, zz_leT, zz_leF, zz_ltT, zz_ltF, zz_eqF, zz_eqT, zz_m1, zz_m2, zz_m3, zz_m4, zz_m5, zz_m6, zz_ck, zz_bl, zz_b3, zz_b2, zz_shl, zz_bt0, zz_bt1, pk_div, Nat.zero_add, Nat.add_zero, if_true, if_false, reduceIte, Nat.mul_zero, zz_or0, zz_inT, zz_inF]
  rw [st, m1, ← bl]
  simp (disch := omega) only [fX12_ask_b177, fX12_ask_b184, zz_lt, li_0, li_1, li_2, li_3, li_4, li_5, li_6, li_7, li_8, li_9, li_10, li_11, li_12, li_15, li_16, li_20, li_21, li_24, li_25, li_26, li_32, li_33, li_38, li_40, li_41, li_42, li_43, li_45, li_47, li_48, li_57, li_58, li_59, li_60, li_61, li_62, li_63, li_74, li_75, li_84, li_91, li_93, li_98, li_100, li_103, li_105, li_107, li_109, li_110, li_111, li_112, li_115, li_118, li_119, li_120, li_121, li_124, li_140, li_180, li_206, li_240, li_255, li_420, li_520, li_999, li_1000, li_1771, li_8240, li_9999, li_88200, li_1000000, li_2097151, li_31, nI_add, pk_mul, zz_sub, zz_an, nI_clamp, zz_leT, zz_leF, zz_ltT, zz_ltF, zz_eqF, zz_eqT, zz_m1, zz_m2, zz_m3, zz_m4, zz_m5, zz_m6, zz_ck, zz_bl, zz_b3, zz_b2, zz_shl, zz_bt0, zz_bt1, pk_div, Nat.zero_add, Nat.add_zero, if_true, if_false, reduceIte, Nat.mul_zero, zz_or0, zz_inT, zz_inF]
theorem op_ask {X : Nat → Nat → Nat} {IC IM : am_I} (hX : GX X) (hc : CX IC X) (hM : MX IM X) (LC LM : am_L) (e0 e1 : Int32) : am_scr (fX11_ask am_N 1900 e0 e1 IC LC) (fX12_ask am_N 1900 e0 e1 IM LM) IC LC IM LM := by
  rcases size_of e0 with ⟨_, s1, s2⟩ | ⟨N, P, hN, rfl, s1, s2⟩
  · exact ⟨-nI 1, IC, IM, by simp (disch := omega) only [fX11_ask, zz_lt, li_0, li_1, li_2, li_3, li_4, li_5, li_6, li_7, li_8, li_9, li_10, li_11, li_12, li_15, li_16, li_20, li_21, li_24, li_25, li_26, li_32, li_33, li_38, li_40, li_41, li_42, li_43, li_45, li_47, li_48, li_57, li_58, li_59, li_60, li_61, li_62, li_63, li_74, li_75, li_84, li_91, li_93, li_98, li_100, li_103, li_105, li_107, li_109, li_110, li_111, li_112, li_115, li_118, li_119, li_120, li_121, li_124, li_140, li_180, li_206, li_240, li_255, li_420, li_520, li_999, li_1000, li_1771, li_8240, li_9999, li_88200, li_1000000, li_2097151, li_31, nI_add, pk_mul, zz_sub, zz_an, nI_clamp, zz_leT, zz_leF, zz_ltT, zz_ltF, zz_eqF, zz_eqT, zz_m1, zz_m2, zz_m3, zz_m4, zz_m5, zz_m6, zz_ck, zz_bl, zz_b3, zz_b2, zz_shl, zz_bt0, zz_bt1, pk_div, Nat.zero_add, Nat.add_zero, if_true, if_false, reduceIte, Nat.mul_zero, zz_or0, zz_inT, zz_inF, s1], by simp (disch := omega) only [fX12_ask, zz_lt, li_0, li_1, li_2, li_3, li_4, li_5, li_6, li_7, li_8, li_9, li_10, li_11, li_12, li_15, li_16, li_20, li_21, li_24, li_25, li_26, li_32, li_33, li_38, li_40, li_41, li_42, li_43, li_45, li_47, li_48, li_57, li_58, li_59, li_60, li_61, li_62, li_63, li_74, li_75, li_84, li_91, li_93, li_98, li_100, li_103, li_105, li_107, li_109, li_110, li_111, li_112, li_115, li_118, li_119, li_120, li_121, li_124, li_140, li_180, li_206, li_240, li_255, li_420, li_520, li_999, li_1000, li_1771, li_8240, li_9999, li_88200, li_1000000, li_2097151, li_31, nI_add, pk_mul, zz_sub, zz_an, nI_clamp, zz_leT, zz_leF, zz_ltT, zz_ltF, zz_eqF, zz_eqT, zz_m1, zz_m2, zz_m3, zz_m4, zz_m5, zz_m6, zz_ck, zz_bl, zz_b3, zz_b2, zz_shl, zz_bt0, zz_bt1, pk_div, Nat.zero_add, Nat.add_zero, if_true, if_false, reduceIte, Nat.mul_zero, zz_or0, zz_inT, zz_inF, s2], ag_rf, ag_rf⟩
  · rcases ix_of e1 (n := 2) (by omega) with he | ⟨w, hw, rfl⟩
    · refine ⟨-nI 1, IC, IM, ?_, ?_, ag_rf, ag_rf⟩
      · by_cases c : e1 < nI 0
        · simp (disch := omega) only [fX11_ask, zz_lt, li_0, li_1, li_2, li_3, li_4, li_5, li_6, li_7, li_8, li_9, li_10, li_11, li_12, li_15, li_16, li_20, li_21, li_24, li_25, li_26, li_32, li_33, li_38, li_40, li_41, li_42, li_43, li_45, li_47, li_48, li_57, li_58, li_59, li_60, li_61, li_62, li_63, li_74, li_75, li_84, li_91, li_93, li_98, li_100, li_103, li_105, li_107, li_109, li_110, li_111, li_112, li_115, li_118, li_119, li_120, li_121, li_124, li_140, li_180, li_206, li_240, li_255, li_420, li_520, li_999, li_1000, li_1771, li_8240, li_9999, li_88200, li_1000000, li_2097151, li_31, nI_add, pk_mul, zz_sub, zz_an, nI_clamp, zz_leT, zz_leF, zz_ltT, zz_ltF, zz_eqF, zz_eqT, zz_m1, zz_m2, zz_m3, zz_m4, zz_m5, zz_m6, zz_ck, zz_bl, zz_b3, zz_b2, zz_shl, zz_bt0, zz_bt1, pk_div, Nat.zero_add, Nat.add_zero, if_true, if_false, reduceIte, Nat.mul_zero, zz_or0, zz_inT, zz_inF, s1, c]
        · have c2 : ¬ e1 ≤ nI 1 := by
            have := Int32.le_iff_toInt_le.mp (he.resolve_left c)
            rw [nI_toInt (by omega)] at this
            intro z
            have := Int32.le_iff_toInt_le.mp z
            rw [nI_toInt (by omega)] at this
            omega
          simp (disch := omega) only [fX11_ask, zz_lt, li_0, li_1, li_2, li_3, li_4, li_5, li_6, li_7, li_8, li_9, li_10, li_11, li_12, li_15, li_16, li_20, li_21, li_24, li_25, li_26, li_32, li_33, li_38, li_40, li_41, li_42, li_43, li_45, li_47, li_48, li_57, li_58, li_59, li_60, li_61, li_62, li_63, li_74, li_75, li_84, li_91, li_93, li_98, li_100, li_103, li_105, li_107, li_109, li_110, li_111, li_112, li_115, li_118, li_119, li_120, li_121, li_124, li_140, li_180, li_206, li_240, li_255, li_420, li_520, li_999, li_1000, li_1771, li_8240, li_9999, li_88200, li_1000000, li_2097151, li_31, nI_add, pk_mul, zz_sub, zz_an, nI_clamp, zz_leT, zz_leF, zz_ltT, zz_ltF, zz_eqF, zz_eqT, zz_m1, zz_m2, zz_m3, zz_m4, zz_m5, zz_m6, zz_ck, zz_bl, zz_b3, zz_b2, zz_shl, zz_bt0, zz_bt1, pk_div, Nat.zero_add, Nat.add_zero, if_true, if_false, reduceIte, Nat.mul_zero, zz_or0, zz_inT, zz_inF, s1, c, c2]
      · have pi := pm_in0 am_N 1900 IM LM he (by omega)
        rw [show nI 2 - nI 1 = nI 1 from rfl] at pi
        simp (disch := omega) only [fX12_ask, zz_lt, li_0, li_1, li_2, li_3, li_4, li_5, li_6, li_7, li_8, li_9, li_10, li_11, li_12, li_15, li_16, li_20, li_21, li_24, li_25, li_26, li_32, li_33, li_38, li_40, li_41, li_42, li_43, li_45, li_47, li_48, li_57, li_58, li_59, li_60, li_61, li_62, li_63, li_74, li_75, li_84, li_91, li_93, li_98, li_100, li_103, li_105, li_107, li_109, li_110, li_111, li_112, li_115, li_118, li_119, li_120, li_121, li_124, li_140, li_180, li_206, li_240, li_255, li_420, li_520, li_999, li_1000, li_1771, li_8240, li_9999, li_88200, li_1000000, li_2097151, li_31, nI_add, pk_mul, zz_sub, zz_an, nI_clamp, zz_leT, zz_leF, zz_ltT, zz_ltF, zz_eqF, zz_eqT, zz_m1, zz_m2, zz_m3, zz_m4, zz_m5, zz_m6, zz_ck, zz_bl, zz_b3, zz_b2, zz_shl, zz_bt0, zz_bt1, pk_div, Nat.zero_add, Nat.add_zero, if_true, if_false, reduceIte, Nat.mul_zero, zz_or0, zz_inT, zz_inF, s2, pi]
    · have pi := pm_in1 am_N 1900 IM LM hw (by omega)
      rw [show nI 2 - nI 1 = nI 1 from rfl] at pi
      have tl := tF_le X N P
      obtain ⟨I', w1, w2, w3, w4⟩ := pc_tally hX hN LC hc
      obtain ⟨v, f1, f2⟩ := pm_fit0 hX hM LM hN P 0 am_N (by omega) (by unfold am_N; omega) rfl
      have hT : ∀ i, tT X N P i ≤ 10000 := fun i => by have := tT_le X N i P; omega
      have ft : fX12_fit am_N 1900 (nI N) (nI 0) IM LM = some (v, IM, LM) := by
        simp (disch := omega) only [fX12_fit, zz_lt, li_0, li_1, li_2, li_3, li_4, li_5, li_6, li_7, li_8, li_9, li_10, li_11, li_12, li_15, li_16, li_20, li_21, li_24, li_25, li_26, li_32, li_33, li_38, li_40, li_41, li_42, li_43, li_45, li_47, li_48, li_57, li_58, li_59, li_60, li_61, li_62, li_63, li_74, li_75, li_84, li_91, li_93, li_98, li_100, li_103, li_105, li_107, li_109, li_110, li_111, li_112, li_115, li_118, li_119, li_120, li_121, li_124, li_140, li_180, li_206, li_240, li_255, li_420, li_520, li_999, li_1000, li_1771, li_8240, li_9999, li_88200, li_1000000, li_2097151, li_31, nI_add, pk_mul, zz_sub, zz_an, nI_clamp, zz_leT, zz_leF, zz_ltT, zz_ltF, zz_eqF, zz_eqT, zz_m1, zz_m2, zz_m3, zz_m4, zz_m5, zz_m6, zz_ck, zz_bl, zz_b3, zz_b2, zz_shl, zz_bt0, zz_bt1, pk_div, Nat.zero_add, Nat.add_zero, if_true, if_false, reduceIte, Nat.mul_zero, zz_or0, zz_inT, zz_inF, s2, f1]
      rcases f2 with ⟨g1, g2⟩ | ⟨g1, g2⟩
      · refine ⟨-nI 1, I', IM, ?_, ?_, ag_Ta w4, ag_rf⟩
        · simp (disch := omega) only [fX11_ask, zz_lt, li_0, li_1, li_2, li_3, li_4, li_5, li_6, li_7, li_8, li_9, li_10, li_11, li_12, li_15, li_16, li_20, li_21, li_24, li_25, li_26, li_32, li_33, li_38, li_40, li_41, li_42, li_43, li_45, li_47, li_48, li_57, li_58, li_59, li_60, li_61, li_62, li_63, li_74, li_75, li_84, li_91, li_93, li_98, li_100, li_103, li_105, li_107, li_109, li_110, li_111, li_112, li_115, li_118, li_119, li_120, li_121, li_124, li_140, li_180, li_206, li_240, li_255, li_420, li_520, li_999, li_1000, li_1771, li_8240, li_9999, li_88200, li_1000000, li_2097151, li_31, nI_add, pk_mul, zz_sub, zz_an, nI_clamp, zz_leT, zz_leF, zz_ltT, zz_ltF, zz_eqF, zz_eqT, zz_m1, zz_m2, zz_m3, zz_m4, zz_m5, zz_m6, zz_ck, zz_bl, zz_b3, zz_b2, zz_shl, zz_bt0, zz_bt1, pk_div, Nat.zero_add, Nat.add_zero, if_true, if_false, reduceIte, Nat.mul_zero, zz_or0, zz_inT, zz_inF, s1, w1, g2]
        · simp (disch := omega) only [fX12_ask, zz_lt, li_0, li_1, li_2, li_3, li_4, li_5, li_6, li_7, li_8, li_9, li_10, li_11, li_12, li_15, li_16, li_20, li_21, li_24, li_25, li_26, li_32, li_33, li_38, li_40, li_41, li_42, li_43, li_45, li_47, li_48, li_57, li_58, li_59, li_60, li_61, li_62, li_63, li_74, li_75, li_84, li_91, li_93, li_98, li_100, li_103, li_105, li_107, li_109, li_110, li_111, li_112, li_115, li_118, li_119, li_120, li_121, li_124, li_140, li_180, li_206, li_240, li_255, li_420, li_520, li_999, li_1000, li_1771, li_8240, li_9999, li_88200, li_1000000, li_2097151, li_31, nI_add, pk_mul, zz_sub, zz_an, nI_clamp, zz_leT, zz_leF, zz_ltT, zz_ltF, zz_eqF, zz_eqT, zz_m1, zz_m2, zz_m3, zz_m4, zz_m5, zz_m6, zz_ck, zz_bl, zz_b3, zz_b2, zz_shl, zz_bt0, zz_bt1, pk_div, Nat.zero_add, Nat.add_zero, if_true, if_false, reduceIte, Nat.mul_zero, zz_or0, zz_inT, zz_inF, s2, pi, ft, g1]
      · obtain ⟨J, y1, y2, y3⟩ := pm_as32 hX hN LM (nI w) 84 0 am_N IM (by omega) (by unfold am_N; omega) hM (fun t ht => by omega)
        have bqC : fX4_bestQuestion am_N 1900 I' LC = some (nI (bq (tT X N P) 20), I', LC) := pc_bq am_N 1900 am_N1 LC hT w2
        have mfC := pc_mf am_N 1900 am_N8 LC hT w2 (k := bq (tT X N P) 20) (bq_le _ _)
        have bqM := pm_bq0 am_N 1900 am_N1 LM hT y2 (nI w) am_N (by unfold am_N; omega)
        refine ⟨if nI w = nI 0 then nI (bq (tT X N P) 20) else nI (mfa (tT X N P) (bq (tT X N P) 20) 4), I', J, ?_, ?_, ag_Ta w4, ag_23 y3⟩
        · by_cases c : w = 0 <;> simp (disch := omega) only [fX11_ask, zz_lt, li_0, li_1, li_2, li_3, li_4, li_5, li_6, li_7, li_8, li_9, li_10, li_11, li_12, li_15, li_16, li_20, li_21, li_24, li_25, li_26, li_32, li_33, li_38, li_40, li_41, li_42, li_43, li_45, li_47, li_48, li_57, li_58, li_59, li_60, li_61, li_62, li_63, li_74, li_75, li_84, li_91, li_93, li_98, li_100, li_103, li_105, li_107, li_109, li_110, li_111, li_112, li_115, li_118, li_119, li_120, li_121, li_124, li_140, li_180, li_206, li_240, li_255, li_420, li_520, li_999, li_1000, li_1771, li_8240, li_9999, li_88200, li_1000000, li_2097151, li_31, nI_add, pk_mul, zz_sub, zz_an, nI_clamp, zz_leT, zz_leF, zz_ltT, zz_ltF, zz_eqF, zz_eqT, zz_m1, zz_m2, zz_m3, zz_m4, zz_m5, zz_m6, zz_ck, zz_bl, zz_b3, zz_b2, zz_shl, zz_bt0, zz_bt1, pk_div, Nat.zero_add, Nat.add_zero, if_true, if_false, reduceIte, Nat.mul_zero, zz_or0, zz_inT, zz_inF, s1, w1, bqC, mfC, c]
        · have g1' : ¬ v = -nI 1 := g1
          simp (disch := omega) only [fX12_ask, zz_lt, li_0, li_1, li_2, li_3, li_4, li_5, li_6, li_7, li_8, li_9, li_10, li_11, li_12, li_15, li_16, li_20, li_21, li_24, li_25, li_26, li_32, li_33, li_38, li_40, li_41, li_42, li_43, li_45, li_47, li_48, li_57, li_58, li_59, li_60, li_61, li_62, li_63, li_74, li_75, li_84, li_91, li_93, li_98, li_100, li_103, li_105, li_107, li_109, li_110, li_111, li_112, li_115, li_118, li_119, li_120, li_121, li_124, li_140, li_180, li_206, li_240, li_255, li_420, li_520, li_999, li_1000, li_1771, li_8240, li_9999, li_88200, li_1000000, li_2097151, li_31, nI_add, pk_mul, zz_sub, zz_an, nI_clamp, zz_leT, zz_leF, zz_ltT, zz_ltF, zz_eqF, zz_eqT, zz_m1, zz_m2, zz_m3, zz_m4, zz_m5, zz_m6, zz_ck, zz_bl, zz_b3, zz_b2, zz_shl, zz_bt0, zz_bt1, pk_div, Nat.zero_add, Nat.add_zero, if_true, if_false, reduceIte, Nat.mul_zero, zz_or0, zz_inT, zz_inF, s2, pi, ft, g1']
          rw [y1, bqM]
