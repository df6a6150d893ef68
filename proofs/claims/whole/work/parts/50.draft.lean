/-! PURE: the draft of a war: a clause kept, on both sides. -/
theorem zz_cp {β : Type} {sp dp n n0 n1 : Nat} {K : Option β} (h : sp + n ≤ n0 ∧ dp + n ≤ n1 ∧ n0 < 1000000 ∧ n1 < 1000000) : am_cp (nI sp) (nI dp) (nI n) n0 n1 K = K := by
  unfold am_cp
  rw [if_pos]
  rw [nI_toInt (by omega), nI_toInt (by omega), nI_toInt (by omega), nI_clamp (by omega), nI_clamp (by omega), nI_clamp (by omega)]
  omega
theorem cz_in {I : am_I} {f : Nat → Int32} {t sp dp n j : Nat} (h : dp ≤ j ∧ j < dp + n) : am_cz I f t sp dp n t j = f (sp + (j - dp)) := by
  unfold am_cz
  rw [if_pos rfl, pk_cpy_in h.1 h.2]
theorem cz_ne {I : am_I} {f : Nat → Int32} {t sp dp n k : Nat} (h : k ≠ t) : am_cz I f t sp dp n k = I k := by
  unfold am_cz
  rw [if_neg h]
def sIt2 (k j : Nat) : Bool := k == 26 || (k == 25 && (j == 3 || j == 4))
theorem pc_its {n : Nat} {t : Nat → Nat} (f d : Nat) {I : am_I} (h : TC I n t) (L : am_L) (β γ p : Nat) : ∃ X, fX10_readItems f d (nI β) (nI γ) (cq I p) L = fX10_readItems_b21 f d f (nI β) (nI γ) (nI 0) (cq X p) L ∧ TC X n t ∧ X 25 3 = nI 0 ∧ (∀ k, k < 10 → X 26 k = nI (wiT k)) ∧ am_ag sIt2 I X := by
  have ne : ∀ k, k ≠ 25 → k ≠ 26 → am_up (am_cz (cq I p) am_cW 26 0 0 10) 25 3 (nI 0) k = I k := fun k h1 h2 => by rw [am_up_ne h1, cz_ne h2, cq_k _ _ h1]
  refine ⟨am_up (am_cz (cq I p) am_cW 26 0 0 10) 25 3 (nI 0), ?_, ?_, up_s rfl, fun k hk => ?_, fun k j e => ?_⟩
  · have z : am_up (am_cz (cq I p) am_cW 26 0 0 10) 25 3 (nI 0) 25 4 = nI p := by rw [up_n (by omega), cz_ne (by omega), cq_4]
    rw [cq_self z]
    unfold fX10_readItems
    rw [li_0, li_10, zz_cp (by omega), zz_lt, nI_clamp (by omega), nI_clamp (by omega), zz_lt, zz_lt]
  · unfold TC at *
    rw [ne 1 (by omega) (by omega), ne 2 (by omega) (by omega)]
    exact h
  · rw [am_up_ne (by omega), cz_in (by omega), Nat.zero_add, Nat.sub_zero, cW_t k hk]
  · by_cases c : k = 25
    · subst c
      simp [sIt2] at e
      rw [up_n (by omega), cz_ne (by omega), cq_j _ _ (by omega)]
    · by_cases c2 : k = 26
      · subst c2; simp [sIt2] at e
      · rw [ne k c c2]
theorem ag_It2 {I I' : am_I} (a : am_ag sIt I I') : am_ag sIt2 I I' := ag_wk a (fun k j h => by
  unfold sIt2 at h
  unfold sIt
  simp at h ⊢
  omega)
theorem ml_iniM {n : Nat} {t : Nat → Nat} (hG : GT n t) (f d : Nat) (hf : 300 < f) (L : am_L) {o a : Nat} (ho : o + 6 ≤ 48) (ha : a ≤ n) : ∀ (j k F : Nat) (J : am_I), k + j = 6 → j < F → TM J n t → (∀ i, i < k → J 11 (o + i) = nI (wiT (0 + i))) → ∃ J1, fX12_items_readMan_b3 f d F (nI 109) (nI o) (nI 6) (nI k) (mp J a (-nI 1)) L = fX12_items_readMan_b41 f d f (nI 109) (nI o) (nI 0) (zn (itR 0 6 (bx n t (nb n t a)))) (mp J1 (nb n t a) (-nI 1)) L ∧ TM J1 n t ∧ (∀ i, i < 6 → J1 11 (o + i) = nI (wiT (0 + i))) ∧ am_ag (sJM o) J J1
  | _, _, 0, _, _, fu, _, _ => by omega
  | 0, k, F + 1, J, e, fu, h, hv => by
    have g := hG.1
    have lk := pm_look hG f d hf h L (-nI 1) (a := a) (by omega)
    have bl := bx_le hG (nb n t a)
    have it := pm_itM f d (x := bx n t (nb n t a)) (by omega) (mp J (nb n t a) (-nI 1)) L
    refine ⟨J, ?_, h, fun i hi => hv i (by omega), ag_rf⟩
    simp (disch := omega) only [fX12_items_readMan_b3, fX12_items_readMan_b3w, zz_lt, li_0, li_1, li_2, li_3, li_4, li_5, li_6, li_7, li_8, li_9, li_10, li_11, li_12, li_15, li_16, li_20, li_21, li_24, li_25, li_26, li_32, li_33, li_38, li_40, li_41, li_42, li_43, li_45, li_47, li_48, li_57, li_58, li_59, li_60, li_61, li_62, li_63, li_74, li_75, li_84, li_91, li_93, li_98, li_100, li_103, li_105, li_107, li_109, li_110, li_111, li_112, li_115, li_118, li_119, li_120, li_121, li_124, li_140, li_180, li_206, li_240, li_255, li_420, li_520, li_999, li_1000, li_1771, li_8240, li_9999, li_88200, li_1000000, li_2097151, li_31, nI_add, pk_mul, zz_sub, zz_an, nI_clamp, zz_leT, zz_leF, zz_ltT, zz_ltF, zz_eqF, zz_eqT, zz_m1, zz_m2, zz_m3, zz_m4, zz_m5, zz_m6, zz_ck, zz_bl, zz_b3, zz_b2, zz_shl, zz_bt0, zz_bt1, pk_div, Nat.zero_add, Nat.add_zero, if_true, if_false, reduceIte, Nat.mul_zero, zz_or0, zz_inT, zz_inF, lk, it]
  | j + 1, k, F + 1, J, e, fu, h, hv => by
    have us := pm_usualM f d (mp J a (-nI 1)) L k (by omega)
    have mu := mp_upk J a (-nI 1) (k := 11) (j := o + k) (nI (wiT (0 + k))) (by omega)
    obtain ⟨J1, z1, z2, z3, z4⟩ := ml_iniM hG f d hf L ho ha j (k + 1) F (am_up J 11 (o + k) (nI (wiT (0 + k)))) (by omega) (by omega) (TM_up h (by omega)) (fun i hi => by
      by_cases c : i = k
      · subst c; rw [up_s rfl]
      · rw [up_n (by omega)]; exact hv i (by omega))
    refine ⟨J1, ?_, z2, z3, ag_tr (ag_up ag_rf (sJM_t (by omega))) z4⟩
    rw [← z1]
    (try simp only [Nat.zero_add] at mu us)
    simp (disch := omega) only [fX12_items_readMan_b3, fX12_items_readMan_b3w, zz_lt, li_0, li_1, li_2, li_3, li_4, li_5, li_6, li_7, li_8, li_9, li_10, li_11, li_12, li_15, li_16, li_20, li_21, li_24, li_25, li_26, li_32, li_33, li_38, li_40, li_41, li_42, li_43, li_45, li_47, li_48, li_57, li_58, li_59, li_60, li_61, li_62, li_63, li_74, li_75, li_84, li_91, li_93, li_98, li_100, li_103, li_105, li_107, li_109, li_110, li_111, li_112, li_115, li_118, li_119, li_120, li_121, li_124, li_140, li_180, li_206, li_240, li_255, li_420, li_520, li_999, li_1000, li_1771, li_8240, li_9999, li_88200, li_1000000, li_2097151, li_31, nI_add, pk_mul, zz_sub, zz_an, nI_clamp, zz_leT, zz_leF, zz_ltT, zz_ltF, zz_eqF, zz_eqT, zz_m1, zz_m2, zz_m3, zz_m4, zz_m5, zz_m6, zz_ck, zz_bl, zz_b3, zz_b2, zz_shl, zz_bt0, zz_bt1, pk_div, Nat.zero_add, Nat.add_zero, if_true, if_false, reduceIte, Nat.mul_zero, zz_or0, zz_inT, zz_inF, us, mu]
theorem ic_bothM {n : Nat} {t : Nat → Nat} (hG : GT n t) (f d : Nat) (hf : 1000 < f) (LC LM : am_L) {o a : Nat} (ho : o + 6 ≤ 48) (ha : a ≤ n) {I J : am_I} (hI : TC I n t) (hJ : TM J n t) : ∃ (r : Nat) (I' J' : am_I) (a' : Nat) (w' : Int32) (p' : Nat) (val' : Nat → Nat), fX10_readItems f d (nI 0) (nI (0 + 6)) (cq I (nb n t a)) LC = some (nI r, cq I' p', LC) ∧ fX12_items_readMan f d (nI 109) (nI o) (nI 6) (mp J a (-nI 1)) LM = some (mp J' a' w', LM) ∧ am_ag sIt2 I I' ∧ am_ag (sJM o) J J' ∧ ((r = 1 ∧ w' = -nI 1 ∧ a' = p' ∧ p' ≤ n ∧ (p' < n → t p' = 59) ∧ a ≤ p' ∧ (∀ k, k < 6 → I' 26 (0 + k) = nI (val' k) ∧ J' 11 (o + k) = nI (val' k) ∧ lwT (0 + k) ≤ val' k ∧ val' k ≤ hgT (0 + k))) ∨ (r = 0 ∧ a' ≤ 300 ∧ p' ≤ 300 ∧ (w' = nI p' ∨ (w' = -nI 1 ∧ a' = p' ∧ p' < n ∧ t p' ≠ 59 ∧ t p' ≠ 32)))) := by
  have g := hG.1
  have np := nb_le (n := n) (t := t) (i := a) ha
  have ge := nb_ge n t a
  obtain ⟨X, x1, x2, x3, x4, x5⟩ := pc_its f d hI LC 0 (0 + 6) (nb n t a)
  obtain ⟨J1, y1, y2, y3, y4⟩ := ml_iniM hG f d (by omega) LM ho ha 6 0 f J (by omega) (by omega) hJ (fun i hi => by omega)
  obtain ⟨r, I', J', a', w', p', val', z1, z2, z3, z4, z5⟩ := it_bothM hG f d (by omega) LC LM ho f f (nb n t a) 0 X J1 (nI 0) (fun k => wiT (0 + k)) (by omega) (by omega) np (fun z => nb_no ha z) (by omega) x2 y2 (fun k hk => by rw [x3]; exact (b_0 _).trans (b_0 _).symm) (fun k hk => ⟨x4 _ (by omega), y3 k hk, wi_in _ (by omega)⟩)
  refine ⟨r, I', J', a', w', p', val', by rw [x1]; exact z1, ?_, ag_tr x5 (ag_It2 z3), ag_tr y4 z4, ?_⟩
  · unfold fX12_items_readMan
    rw [zz_lt, li_0, y1]
    exact z2
  · rcases z5 with ⟨q1, q2, q3, q4, q5, q6, q7⟩ | q
    · exact Or.inl ⟨q1, q2, q3, q4, q5, by omega, q7⟩
    · exact Or.inr q
theorem ml_iniO {n : Nat} {t : Nat → Nat} (hG : GT n t) (f d : Nat) (hf : 300 < f) (L : am_L) {o a : Nat} (ho : o + 2 ≤ 12) (ha : a ≤ n) : ∀ (j k F : Nat) (J : am_I), k + j = 2 → j < F → TM J n t → (∀ i, i < k → J 12 (o + i) = nI (wiT (6 + i))) → ∃ J1, fX12_items_readOrchard_b3 f d F (nI 111) (nI o) (nI 2) (nI k) (mp J a (-nI 1)) L = fX12_items_readOrchard_b41 f d f (nI 111) (nI o) (nI 0) (zn (itR 6 2 (bx n t (nb n t a)))) (mp J1 (nb n t a) (-nI 1)) L ∧ TM J1 n t ∧ (∀ i, i < 2 → J1 12 (o + i) = nI (wiT (6 + i))) ∧ am_ag (sJO o) J J1
  | _, _, 0, _, _, fu, _, _ => by omega
  | 0, k, F + 1, J, e, fu, h, hv => by
    have g := hG.1
    have lk := pm_look hG f d hf h L (-nI 1) (a := a) (by omega)
    have bl := bx_le hG (nb n t a)
    have it := pm_itO f d (x := bx n t (nb n t a)) (by omega) (mp J (nb n t a) (-nI 1)) L
    refine ⟨J, ?_, h, fun i hi => hv i (by omega), ag_rf⟩
    simp (disch := omega) only [fX12_items_readOrchard_b3, fX12_items_readOrchard_b3w, zz_lt, li_0, li_1, li_2, li_3, li_4, li_5, li_6, li_7, li_8, li_9, li_10, li_11, li_12, li_15, li_16, li_20, li_21, li_24, li_25, li_26, li_32, li_33, li_38, li_40, li_41, li_42, li_43, li_45, li_47, li_48, li_57, li_58, li_59, li_60, li_61, li_62, li_63, li_74, li_75, li_84, li_91, li_93, li_98, li_100, li_103, li_105, li_107, li_109, li_110, li_111, li_112, li_115, li_118, li_119, li_120, li_121, li_124, li_140, li_180, li_206, li_240, li_255, li_420, li_520, li_999, li_1000, li_1771, li_8240, li_9999, li_88200, li_1000000, li_2097151, li_31, nI_add, pk_mul, zz_sub, zz_an, nI_clamp, zz_leT, zz_leF, zz_ltT, zz_ltF, zz_eqF, zz_eqT, zz_m1, zz_m2, zz_m3, zz_m4, zz_m5, zz_m6, zz_ck, zz_bl, zz_b3, zz_b2, zz_shl, zz_bt0, zz_bt1, pk_div, Nat.zero_add, Nat.add_zero, if_true, if_false, reduceIte, Nat.mul_zero, zz_or0, zz_inT, zz_inF, lk, it]
  | j + 1, k, F + 1, J, e, fu, h, hv => by
    have us := pm_usualO f d (mp J a (-nI 1)) L k (by omega)
    have mu := mp_upk J a (-nI 1) (k := 12) (j := o + k) (nI (wiT (6 + k))) (by omega)
    obtain ⟨J1, z1, z2, z3, z4⟩ := ml_iniO hG f d hf L ho ha j (k + 1) F (am_up J 12 (o + k) (nI (wiT (6 + k)))) (by omega) (by omega) (TM_up h (by omega)) (fun i hi => by
      by_cases c : i = k
      · subst c; rw [up_s rfl]
      · rw [up_n (by omega)]; exact hv i (by omega))
    refine ⟨J1, ?_, z2, z3, ag_tr (ag_up ag_rf (sJO_t (by omega))) z4⟩
    rw [← z1]
    (try simp only [Nat.zero_add] at mu us)
    simp (disch := omega) only [fX12_items_readOrchard_b3, fX12_items_readOrchard_b3w, zz_lt, li_0, li_1, li_2, li_3, li_4, li_5, li_6, li_7, li_8, li_9, li_10, li_11, li_12, li_15, li_16, li_20, li_21, li_24, li_25, li_26, li_32, li_33, li_38, li_40, li_41, li_42, li_43, li_45, li_47, li_48, li_57, li_58, li_59, li_60, li_61, li_62, li_63, li_74, li_75, li_84, li_91, li_93, li_98, li_100, li_103, li_105, li_107, li_109, li_110, li_111, li_112, li_115, li_118, li_119, li_120, li_121, li_124, li_140, li_180, li_206, li_240, li_255, li_420, li_520, li_999, li_1000, li_1771, li_8240, li_9999, li_88200, li_1000000, li_2097151, li_31, nI_add, pk_mul, zz_sub, zz_an, nI_clamp, zz_leT, zz_leF, zz_ltT, zz_ltF, zz_eqF, zz_eqT, zz_m1, zz_m2, zz_m3, zz_m4, zz_m5, zz_m6, zz_ck, zz_bl, zz_b3, zz_b2, zz_shl, zz_bt0, zz_bt1, pk_div, Nat.zero_add, Nat.add_zero, if_true, if_false, reduceIte, Nat.mul_zero, zz_or0, zz_inT, zz_inF, us, mu]
theorem ic_bothO {n : Nat} {t : Nat → Nat} (hG : GT n t) (f d : Nat) (hf : 1000 < f) (LC LM : am_L) {o a : Nat} (ho : o + 2 ≤ 12) (ha : a ≤ n) {I J : am_I} (hI : TC I n t) (hJ : TM J n t) : ∃ (r : Nat) (I' J' : am_I) (a' : Nat) (w' : Int32) (p' : Nat) (val' : Nat → Nat), fX10_readItems f d (nI 6) (nI (6 + 2)) (cq I (nb n t a)) LC = some (nI r, cq I' p', LC) ∧ fX12_items_readOrchard f d (nI 111) (nI o) (nI 2) (mp J a (-nI 1)) LM = some (mp J' a' w', LM) ∧ am_ag sIt2 I I' ∧ am_ag (sJO o) J J' ∧ ((r = 1 ∧ w' = -nI 1 ∧ a' = p' ∧ p' ≤ n ∧ (p' < n → t p' = 59) ∧ a ≤ p' ∧ (∀ k, k < 2 → I' 26 (6 + k) = nI (val' k) ∧ J' 12 (o + k) = nI (val' k) ∧ lwT (6 + k) ≤ val' k ∧ val' k ≤ hgT (6 + k))) ∨ (r = 0 ∧ a' ≤ 300 ∧ p' ≤ 300 ∧ (w' = nI p' ∨ (w' = -nI 1 ∧ a' = p' ∧ p' < n ∧ t p' ≠ 59 ∧ t p' ≠ 32)))) := by
  have g := hG.1
  have np := nb_le (n := n) (t := t) (i := a) ha
  have ge := nb_ge n t a
  obtain ⟨X, x1, x2, x3, x4, x5⟩ := pc_its f d hI LC 6 (6 + 2) (nb n t a)
  obtain ⟨J1, y1, y2, y3, y4⟩ := ml_iniO hG f d (by omega) LM ho ha 2 0 f J (by omega) (by omega) hJ (fun i hi => by omega)
  obtain ⟨r, I', J', a', w', p', val', z1, z2, z3, z4, z5⟩ := it_bothO hG f d (by omega) LC LM ho f f (nb n t a) 0 X J1 (nI 0) (fun k => wiT (6 + k)) (by omega) (by omega) np (fun z => nb_no ha z) (by omega) x2 y2 (fun k hk => by rw [x3]; exact (b_0 _).trans (b_0 _).symm) (fun k hk => ⟨x4 _ (by omega), y3 k hk, wi_in _ (by omega)⟩)
  refine ⟨r, I', J', a', w', p', val', by rw [x1]; exact z1, ?_, ag_tr x5 (ag_It2 z3), ag_tr y4 z4, ?_⟩
  · unfold fX12_items_readOrchard
    rw [zz_lt, li_0, y1]
    exact z2
  · rcases z5 with ⟨q1, q2, q3, q4, q5, q6, q7⟩ | q
    · exact Or.inl ⟨q1, q2, q3, q4, q5, by omega, q7⟩
    · exact Or.inr q
theorem ml_iniH {n : Nat} {t : Nat → Nat} (hG : GT n t) (f d : Nat) (hf : 300 < f) (L : am_L) {o a : Nat} (ho : o + 2 ≤ 2) (ha : a ≤ n) : ∀ (j k F : Nat) (J : am_I), k + j = 2 → j < F → TM J n t → (∀ i, i < k → J 13 (o + i) = nI (wiT (8 + i))) → ∃ J1, fX12_items_readHow_b3 f d F (nI 119) (nI o) (nI 2) (nI k) (mp J a (-nI 1)) L = fX12_items_readHow_b41 f d f (nI 119) (nI o) (nI 0) (zn (itR 8 2 (bx n t (nb n t a)))) (mp J1 (nb n t a) (-nI 1)) L ∧ TM J1 n t ∧ (∀ i, i < 2 → J1 13 (o + i) = nI (wiT (8 + i))) ∧ am_ag (sJH o) J J1
  | _, _, 0, _, _, fu, _, _ => by omega
  | 0, k, F + 1, J, e, fu, h, hv => by
    have g := hG.1
    have lk := pm_look hG f d hf h L (-nI 1) (a := a) (by omega)
    have bl := bx_le hG (nb n t a)
    have it := pm_itH f d (x := bx n t (nb n t a)) (by omega) (mp J (nb n t a) (-nI 1)) L
    refine ⟨J, ?_, h, fun i hi => hv i (by omega), ag_rf⟩
    simp (disch := omega) only [fX12_items_readHow_b3, fX12_items_readHow_b3w, zz_lt, li_0, li_1, li_2, li_3, li_4, li_5, li_6, li_7, li_8, li_9, li_10, li_11, li_12, li_15, li_16, li_20, li_21, li_24, li_25, li_26, li_32, li_33, li_38, li_40, li_41, li_42, li_43, li_45, li_47, li_48, li_57, li_58, li_59, li_60, li_61, li_62, li_63, li_74, li_75, li_84, li_91, li_93, li_98, li_100, li_103, li_105, li_107, li_109, li_110, li_111, li_112, li_115, li_118, li_119, li_120, li_121, li_124, li_140, li_180, li_206, li_240, li_255, li_420, li_520, li_999, li_1000, li_1771, li_8240, li_9999, li_88200, li_1000000, li_2097151, li_31, nI_add, pk_mul, zz_sub, zz_an, nI_clamp, zz_leT, zz_leF, zz_ltT, zz_ltF, zz_eqF, zz_eqT, zz_m1, zz_m2, zz_m3, zz_m4, zz_m5, zz_m6, zz_ck, zz_bl, zz_b3, zz_b2, zz_shl, zz_bt0, zz_bt1, pk_div, Nat.zero_add, Nat.add_zero, if_true, if_false, reduceIte, Nat.mul_zero, zz_or0, zz_inT, zz_inF, lk, it]
  | j + 1, k, F + 1, J, e, fu, h, hv => by
    have us := pm_usualH f d (mp J a (-nI 1)) L k (by omega)
    have mu := mp_upk J a (-nI 1) (k := 13) (j := o + k) (nI (wiT (8 + k))) (by omega)
    obtain ⟨J1, z1, z2, z3, z4⟩ := ml_iniH hG f d hf L ho ha j (k + 1) F (am_up J 13 (o + k) (nI (wiT (8 + k)))) (by omega) (by omega) (TM_up h (by omega)) (fun i hi => by
      by_cases c : i = k
      · subst c; rw [up_s rfl]
      · rw [up_n (by omega)]; exact hv i (by omega))
    refine ⟨J1, ?_, z2, z3, ag_tr (ag_up ag_rf (sJH_t (by omega))) z4⟩
    rw [← z1]
    (try simp only [Nat.zero_add] at mu us)
    simp (disch := omega) only [fX12_items_readHow_b3, fX12_items_readHow_b3w, zz_lt, li_0, li_1, li_2, li_3, li_4, li_5, li_6, li_7, li_8, li_9, li_10, li_11, li_12, li_15, li_16, li_20, li_21, li_24, li_25, li_26, li_32, li_33, li_38, li_40, li_41, li_42, li_43, li_45, li_47, li_48, li_57, li_58, li_59, li_60, li_61, li_62, li_63, li_74, li_75, li_84, li_91, li_93, li_98, li_100, li_103, li_105, li_107, li_109, li_110, li_111, li_112, li_115, li_118, li_119, li_120, li_121, li_124, li_140, li_180, li_206, li_240, li_255, li_420, li_520, li_999, li_1000, li_1771, li_8240, li_9999, li_88200, li_1000000, li_2097151, li_31, nI_add, pk_mul, zz_sub, zz_an, nI_clamp, zz_leT, zz_leF, zz_ltT, zz_ltF, zz_eqF, zz_eqT, zz_m1, zz_m2, zz_m3, zz_m4, zz_m5, zz_m6, zz_ck, zz_bl, zz_b3, zz_b2, zz_shl, zz_bt0, zz_bt1, pk_div, Nat.zero_add, Nat.add_zero, if_true, if_false, reduceIte, Nat.mul_zero, zz_or0, zz_inT, zz_inF, us, mu]
theorem ic_bothH {n : Nat} {t : Nat → Nat} (hG : GT n t) (f d : Nat) (hf : 1000 < f) (LC LM : am_L) {o a : Nat} (ho : o + 2 ≤ 2) (ha : a ≤ n) {I J : am_I} (hI : TC I n t) (hJ : TM J n t) : ∃ (r : Nat) (I' J' : am_I) (a' : Nat) (w' : Int32) (p' : Nat) (val' : Nat → Nat), fX10_readItems f d (nI 8) (nI (8 + 2)) (cq I (nb n t a)) LC = some (nI r, cq I' p', LC) ∧ fX12_items_readHow f d (nI 119) (nI o) (nI 2) (mp J a (-nI 1)) LM = some (mp J' a' w', LM) ∧ am_ag sIt2 I I' ∧ am_ag (sJH o) J J' ∧ ((r = 1 ∧ w' = -nI 1 ∧ a' = p' ∧ p' ≤ n ∧ (p' < n → t p' = 59) ∧ a ≤ p' ∧ (∀ k, k < 2 → I' 26 (8 + k) = nI (val' k) ∧ J' 13 (o + k) = nI (val' k) ∧ lwT (8 + k) ≤ val' k ∧ val' k ≤ hgT (8 + k))) ∨ (r = 0 ∧ a' ≤ 300 ∧ p' ≤ 300 ∧ (w' = nI p' ∨ (w' = -nI 1 ∧ a' = p' ∧ p' < n ∧ t p' ≠ 59 ∧ t p' ≠ 32)))) := by
  have g := hG.1
  have np := nb_le (n := n) (t := t) (i := a) ha
  have ge := nb_ge n t a
  obtain ⟨X, x1, x2, x3, x4, x5⟩ := pc_its f d hI LC 8 (8 + 2) (nb n t a)
  obtain ⟨J1, y1, y2, y3, y4⟩ := ml_iniH hG f d (by omega) LM ho ha 2 0 f J (by omega) (by omega) hJ (fun i hi => by omega)
  obtain ⟨r, I', J', a', w', p', val', z1, z2, z3, z4, z5⟩ := it_bothH hG f d (by omega) LC LM ho f f (nb n t a) 0 X J1 (nI 0) (fun k => wiT (8 + k)) (by omega) (by omega) np (fun z => nb_no ha z) (by omega) x2 y2 (fun k hk => by rw [x3]; exact (b_0 _).trans (b_0 _).symm) (fun k hk => ⟨x4 _ (by omega), y3 k hk, wi_in _ (by omega)⟩)
  refine ⟨r, I', J', a', w', p', val', by rw [x1]; exact z1, ?_, ag_tr x5 (ag_It2 z3), ag_tr y4 z4, ?_⟩
  · unfold fX12_items_readHow
    rw [zz_lt, li_0, y1]
    exact z2
  · rcases z5 with ⟨q1, q2, q3, q4, q5, q6, q7⟩ | q
    · exact Or.inl ⟨q1, q2, q3, q4, q5, by omega, q7⟩
    · exact Or.inr q
/-- the draft as numbers: bounds, the class's, the model's -/
def rl (g : Nat → Nat → Nat) (s : Nat) : Nat → Nat
  | 0 => 0
  | i + 1 => if g 7 i = s then g 8 i else rl g s i
def apt (g : Nat → Nat → Nat) : Nat → Bool
  | 0 => true
  | i + 1 => apt g i && decide (rl g (g 7 i) i = 0)
def GD (g : Nat → Nat → Nat) : Prop := g 0 0 ≤ 8 ∧ g 0 1 ≤ 6 ∧ g 0 2 ≤ 9 ∧ g 0 3 ≤ 1 ∧ (∀ m, m < g 0 0 → g 1 m ≤ 1 ∧ g 2 m ≤ 20 ∧ 1 ≤ g 3 m ∧ g 3 m ≤ 5 ∧ g 4 m ≤ 1 ∧ g 5 m ≤ 9 ∧ g 6 m ≤ 9) ∧ (∀ o, o < g 0 1 → 1 ≤ g 7 o ∧ g 7 o ≤ 20 ∧ 1 ≤ g 8 o ∧ g 8 o ≤ 9)
def DC (I : am_I) (g : Nat → Nat → Nat) (told : Nat) : Prop := I 14 0 = nI (g 0 0) ∧ I 14 1 = nI (g 0 1) ∧ I 14 2 = nI (g 0 2) ∧ I 14 3 = nI (g 0 3) ∧ I 14 4 = nI (apt g (g 0 1)).toNat ∧ I 25 5 = nI told ∧ (∀ m, m < g 0 0 → I 15 m = nI (g 1 m)) ∧ (∀ m, m < g 0 0 → I 16 m = nI (g 2 m)) ∧ (∀ m, m < g 0 0 → I 17 m = nI (g 3 m)) ∧ (∀ m, m < g 0 0 → I 18 m = nI (g 4 m)) ∧ (∀ m, m < g 0 0 → I 19 m = nI (g 5 m)) ∧ (∀ m, m < g 0 0 → I 20 m = nI (g 6 m)) ∧ (∀ m, m < g 0 1 → I 21 m = nI (g 7 m)) ∧ (∀ m, m < g 0 1 → I 22 m = nI (g 8 m)) ∧ (∀ s, s ≤ 20 → I 23 s = nI (rl g s (g 0 1))) ∧ I 24 0 = am_bits (fun m => decide (g 1 m = 0)) (g 0 0) ∧ I 24 1 = am_bits (fun m => decide (g 1 m = 1)) (g 0 0)
def DM (I : am_I) (g : Nat → Nat → Nat) : Prop := I 0 20 = nI (g 0 0) ∧ I 0 21 = nI (g 0 1) ∧ I 13 0 = nI (g 0 2) ∧ I 13 1 = nI (g 0 3) ∧ (∀ m, m < g 0 0 → ∀ k, k < 6 → I 11 (6 * m + k) = nI (g (k + 1) m)) ∧ (∀ m, m < g 0 1 → ∀ k, k < 2 → I 12 (2 * m + k) = nI (g (k + 7) m))
/-- a man more, an orchard more, pay and allies told -/
def adM (g : Nat → Nat → Nat) (v : Nat → Nat) : Nat → Nat → Nat := fun p q => if p = 0 ∧ q = 0 then g 0 0 + 1 else if 1 ≤ p ∧ p ≤ 6 ∧ q = g 0 0 then v (p - 1) else g p q
def adO (g : Nat → Nat → Nat) (v : Nat → Nat) : Nat → Nat → Nat := fun p q => if p = 0 ∧ q = 1 then g 0 1 + 1 else if (p = 7 ∨ p = 8) ∧ q = g 0 1 then v (p - 7) else g p q
def adH (g : Nat → Nat → Nat) (v : Nat → Nat) : Nat → Nat → Nat := fun p q => if p = 0 ∧ (q = 2 ∨ q = 3) then v (q - 2) else g p q
theorem adM_0 (g : Nat → Nat → Nat) (v : Nat → Nat) : adM g v 0 0 = g 0 0 + 1 := rfl
theorem adM_q (g : Nat → Nat → Nat) (v : Nat → Nat) {q : Nat} (h : q ≠ 0) : adM g v 0 q = g 0 q := by unfold adM; rw [if_neg (by omega), if_neg (by omega)]
theorem adM_n (g : Nat → Nat → Nat) (v : Nat → Nat) {p q : Nat} (h : 1 ≤ p ∧ p ≤ 6) (hq : q = g 0 0) : adM g v p q = v (p - 1) := by unfold adM; rw [if_neg (by omega), if_pos (by omega)]
theorem adM_o (g : Nat → Nat → Nat) (v : Nat → Nat) {p q : Nat} (h : p ≠ 0) (hq : q ≠ g 0 0 ∨ 7 ≤ p) : adM g v p q = g p q := by unfold adM; rw [if_neg (by omega), if_neg (by omega)]
theorem adO_1 (g : Nat → Nat → Nat) (v : Nat → Nat) : adO g v 0 1 = g 0 1 + 1 := rfl
theorem adO_q (g : Nat → Nat → Nat) (v : Nat → Nat) {q : Nat} (h : q ≠ 1) : adO g v 0 q = g 0 q := by unfold adO; rw [if_neg (by omega), if_neg (by omega)]
theorem adO_n (g : Nat → Nat → Nat) (v : Nat → Nat) {p q : Nat} (h : p = 7 ∨ p = 8) (hq : q = g 0 1) : adO g v p q = v (p - 7) := by unfold adO; rw [if_neg (by omega), if_pos ⟨h, hq⟩]
theorem adO_o (g : Nat → Nat → Nat) (v : Nat → Nat) {p q : Nat} (h : p ≠ 0) (hq : q ≠ g 0 1 ∨ (p ≠ 7 ∧ p ≠ 8)) : adO g v p q = g p q := by unfold adO; rw [if_neg (by omega), if_neg (by omega)]
theorem adH_2 (g : Nat → Nat → Nat) (v : Nat → Nat) : adH g v 0 2 = v 0 := rfl
theorem adH_3 (g : Nat → Nat → Nat) (v : Nat → Nat) : adH g v 0 3 = v 1 := rfl
theorem adH_o (g : Nat → Nat → Nat) (v : Nat → Nat) {p q : Nat} (h : p ≠ 0 ∨ (q ≠ 2 ∧ q ≠ 3)) : adH g v p q = g p q := by unfold adH; rw [if_neg (by omega)]
theorem rl_ext {g g' : Nat → Nat → Nat} (s : Nat) : ∀ i, (∀ j, j < i → g' 7 j = g 7 j ∧ g' 8 j = g 8 j) → rl g' s i = rl g s i
  | 0, _ => rfl
  | i + 1, h => by
    unfold rl
    rw [rl_ext s i (fun j hj => h j (by omega)), (h i (by omega)).1, (h i (by omega)).2]
theorem apt_ext {g g' : Nat → Nat → Nat} : ∀ i, (∀ j, j < i → g' 7 j = g 7 j ∧ g' 8 j = g 8 j) → apt g' i = apt g i
  | 0, _ => rfl
  | i + 1, h => by
    unfold apt
    rw [apt_ext i (fun j hj => h j (by omega)), (h i (by omega)).1, rl_ext _ i (fun j hj => h j (by omega))]
def sDr (k j : Nat) : Bool := decide (14 ≤ k ∧ k ≤ 24) || (k == 25 && j == 5)
theorem sDr_k {k j : Nat} (h : 14 ≤ k ∧ k ≤ 24) : sDr k j = true := by simp [sDr, h]
