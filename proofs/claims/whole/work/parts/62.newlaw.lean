/-! PURE: a law's code gives a law. -/
theorem MC_cd {I J : am_I} {s : Nat} (e : ∀ k j, cdM s k j = true → I k j = J k j) : ∀ (cl : List (List Nat × List Nat)) (m j : Nat), m + mln cl ≤ 520 → j + cl.length ≤ 140 → MC J s m j cl → MC I s m j cl
  | [], _, _, _, _, _ => trivial
  | p :: r, m, j, hm, hj, h => by
    obtain ⟨h1, h2, h3, h4, h5, h6, h7, h8⟩ := h
    have hm' : m + (p.1.length + p.2.length + mln r) ≤ 520 := hm
    have hj' : j + (r.length + 1) ≤ 140 := hj
    have c2 : ∀ x, 520 * s ≤ x → x < 520 * s + 520 → I 2 x = J 2 x := fun x a b => e 2 x (by show decide (520 * s ≤ x ∧ x < 520 * s + 520) = true; exact decide_eq_true ⟨a, b⟩)
    have c3 : ∀ x, 520 * s ≤ x → x < 520 * s + 520 → I 3 x = J 3 x := fun x a b => e 3 x (by show decide (520 * s ≤ x ∧ x < 520 * s + 520) = true; exact decide_eq_true ⟨a, b⟩)
    refine ⟨?_, ?_, ?_, ?_, ?_, ?_, ?_, MC_cd e r _ _ (by omega) (by omega) h8⟩
    · rw [e 6 _ (by show decide (140 * s ≤ 140 * s + j ∧ 140 * s + j < 140 * s + 140) = true; exact decide_eq_true (by omega))]; exact h1
    · rw [e 7 _ (by show decide (140 * s ≤ 140 * s + j ∧ 140 * s + j < 140 * s + 140) = true; exact decide_eq_true (by omega))]; exact h2
    · rw [e 8 _ (by show decide (140 * s ≤ 140 * s + j ∧ 140 * s + j < 140 * s + 140) = true; exact decide_eq_true (by omega))]; exact h3
    · exact RQ_ext p.1 _ (fun x a b => c2 x (by omega) (by omega)) h4
    · exact RQ_ext p.1 _ (fun x a b => c3 x (by omega) (by omega)) h5
    · exact RQ_ext p.2 _ (fun x a b => c2 x (by omega) (by omega)) h6
    · exact RQ_ext p.2 _ (fun x a b => c3 x (by omega) (by omega)) h7
theorem law_new {cl : List (List Nat × List Nat)} (hw : WC cl) : ∃ w : (Nat → Nat) → Int32, (∀ (J : am_I) (l : Nat), l < 4 → J 35 l = nI (cln cl) → cln cl ≤ 240 → CC (J (31 + l)) 0 cl → CLaw J l w) ∧ (∀ (J : am_I) (s : Nat), s < 5 → mln cl ≤ 520 → J 5 s = nI cl.length → cl.length ≤ 140 → MC J s 0 0 cl → MLaw J s w) := by
  have ex : ∀ y : Nat → Nat, ∃ v : Int32, (∀ i, i < 6 → y i ≤ 9999) → CWo y cl v ∧ MWo y cl v := fun y => by
    by_cases c : ∀ i, i < 6 → y i ≤ 9999
    · obtain ⟨v, a, b⟩ := law_both y c cl hw
      exact ⟨v, fun _ => ⟨a, b⟩⟩
    · exact ⟨nI 0, fun z => absurd z c⟩
  obtain ⟨w, hw⟩ := Classical.axiomOfChoice ex
  refine ⟨w, fun J l hl h35 hlen hc => ?_, fun J s hs hm h5 hj hc => ?_⟩
  · intro n d I L y c hn e1 e2 h5 hlc hc4 h37
    obtain ⟨cw', _⟩ := hw y (fun i hi => (h37 i hi).2)
    have eJ : I (31 + l) = J (31 + l) := funext e1
    obtain ⟨I', a, b⟩ := cw' n d (n - cln cl - 1) l (cln cl) 0 I L hl (e2.trans h35) (by omega) hlen (fun i hi => (h37 i hi).1) (by rw [eJ]; exact hc)
    rw [show n - cln cl - 1 + cln cl + 1 = n by omega] at a
    refine ⟨I', ?_, a36 b⟩
    simp (disch := omega) only [fX3_worth, fX3_has, zz_lt, li_0, li_1, li_2, li_3, li_4, li_5, li_6, li_7, li_8, li_9, li_10, li_11, li_12, li_15, li_16, li_20, li_21, li_24, li_25, li_26, li_32, li_33, li_38, li_40, li_41, li_42, li_43, li_45, li_47, li_48, li_57, li_58, li_59, li_60, li_61, li_62, li_63, li_74, li_75, li_84, li_91, li_93, li_98, li_100, li_103, li_105, li_107, li_109, li_110, li_111, li_112, li_115, li_118, li_119, li_120, li_121, li_124, li_140, li_180, li_206, li_240, li_255, li_420, li_520, li_999, li_1000, li_1771, li_8240, li_9999, li_88200, li_1000000, li_2097151, li_31, nI_add, pk_mul, zz_sub, zz_an, nI_clamp, zz_leT, zz_leF, zz_ltT, zz_ltF, zz_eqF, zz_eqT, zz_m1, zz_m2, zz_m3, zz_m4, zz_m5, zz_m6, zz_ck, zz_bl, zz_b3, zz_b2, zz_shl, zz_bt0, zz_bt1, pk_div, Nat.zero_add, Nat.add_zero, if_true, if_false, reduceIte, Nat.mul_zero, zz_or0, zz_inT, zz_inF, h5, a]
  · intro n d I L y hn e1 h9
    obtain ⟨_, mw'⟩ := hw y (fun i hi => (h9 i hi).2)
    obtain ⟨I', a, b⟩ := mw' n d (n - cl.length - 1) s 0 0 I L hn hs (by omega) (by rw [e1 5 s (by show decide (s = s) = true; exact decide_eq_true rfl), h5, Nat.zero_add]) (by omega) (fun i hi => (h9 i hi).1) (MC_cd e1 cl 0 0 (by omega) (by omega) hc)
    rw [show n - cl.length - 1 + cl.length + 1 = n by omega] at a
    refine ⟨I', ?_, a10 b⟩
    simp (disch := omega) only [fX12_worthOf, zz_lt, li_0, li_1, li_2, li_3, li_4, li_5, li_6, li_7, li_8, li_9, li_10, li_11, li_12, li_15, li_16, li_20, li_21, li_24, li_25, li_26, li_32, li_33, li_38, li_40, li_41, li_42, li_43, li_45, li_47, li_48, li_57, li_58, li_59, li_60, li_61, li_62, li_63, li_74, li_75, li_84, li_91, li_93, li_98, li_100, li_103, li_105, li_107, li_109, li_110, li_111, li_112, li_115, li_118, li_119, li_120, li_121, li_124, li_140, li_180, li_206, li_240, li_255, li_420, li_520, li_999, li_1000, li_1771, li_8240, li_9999, li_88200, li_1000000, li_2097151, li_31, nI_add, pk_mul, zz_sub, zz_an, nI_clamp, zz_leT, zz_leF, zz_ltT, zz_ltF, zz_eqF, zz_eqT, zz_m1, zz_m2, zz_m3, zz_m4, zz_m5, zz_m6, zz_ck, zz_bl, zz_b3, zz_b2, zz_shl, zz_bt0, zz_bt1, pk_div, Nat.zero_add, Nat.add_zero, if_true, if_false, reduceIte, Nat.mul_zero, zz_or0, zz_inT, zz_inF]
    exact a
