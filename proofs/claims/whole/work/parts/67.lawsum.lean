/-! PURE: terms and sums in a law's text. -/
theorem lj_13 : (13 : Int32) = nI 13 := rfl
theorem lj_14 : (14 : Int32) = nI 14 := rfl
theorem lj_17 : (17 : Int32) = nI 17 := rfl
theorem lj_18 : (18 : Int32) = nI 18 := rfl
theorem lj_19 : (19 : Int32) = nI 19 := rfl
def OKw (n : Nat) (t : Nat → Nat) (b : Bool) (h k s p c m : Nat) (I J I' J' : am_I) (ops : List Nat) (p' a' : Nat) : Prop := EX b h ops ∧ PC n t I' p' (c + ops.length) ∧ PM n t J' a' (-nI 1) k s (m + ops.length) ∧ nb n t a' = p' ∧ a' ≤ n ∧ p + ops.length ≤ p' ∧ RQ (I' 28) cw c ops ∧ RQ (J' 2) mk (520 * s + m) ops ∧ RQ (J' 3) mv (520 * s + m) ops ∧ FC c I I' ∧ FM s m J J'
theorem OKw_x {n : Nat} {t : Nat → Nat} {b : Bool} {h k s p c m : Nat} {I J I' J' : am_I} {ops : List Nat} {p' a' : Nat} (w : OKw n t b h k s p c m I J I' J' ops p' a') : OKx n t b h k s p c m I J I' J' := ⟨ops, p', a', w⟩
theorem mf_put {J : am_I} {s m E e : Nat} (f d : Nat) (L : am_L) (h : MF J s m E e) (hs : s ≤ 4) (hE : E < 520) (x y : Int32) : ∃ J', fX12_put f d x y J L = some (J', L) ∧ MF J' s m (E + 1) e ∧ FM s m J J' := by
  obtain ⟨h1, h2, h3, m', a1, a2, a3⟩ := h
  refine ⟨_, lm_put f d L h3 a3 hs (by omega) x y, ⟨?_, h2, ?_, m' + 1, by omega, by omega, up_s rfl⟩, ?_⟩
  · rw [am_up_ne (by omega), am_up_ne (by omega), am_up_ne (by omega)]; exact h1
  · rw [am_up_ne (by omega), am_up_ne (by omega), am_up_ne (by omega)]; exact h3
  · exact FM_lo (FM_put J s m' x y (nI (m' + 1))) a1
theorem mf_hi {J : am_I} {s m E E' e : Nat} (h : MF J s m E e) (hE : E ≤ E') : MF J s m E' e := ⟨h.1, h.2.1, h.2.2.1, by
  obtain ⟨x, a, b, c⟩ := h.2.2.2
  exact ⟨x, a, by omega, c⟩⟩
theorem cw_o {o : Nat} (ho : o ≤ 8) : cw (20000 + o) = cO o := by
  unfold cw
  rw [if_neg (by omega), if_neg (by omega), if_pos (by omega), Nat.add_sub_cancel_left, Nat.mod_eq_of_lt (by omega)]
theorem mk_o {o : Nat} (ho : o ≤ 8) : mk (20000 + o) = mO o := by
  unfold mk
  rw [if_neg (by omega), if_neg (by omega), if_pos (by omega), Nat.add_sub_cancel_left]
theorem mv_o (o : Nat) : mv (20000 + o) = nI 0 := by
  unfold mv
  rw [if_neg (by omega), if_neg (by omega)]
theorem len3 (a b : List Nat) (x : Nat) : (a ++ (b ++ [x])).length = a.length + b.length + 1 := by
  simp only [List.length_append, List.length_cons, List.length_nil]; omega
theorem put_pm {J : am_I} {X s : Nat} {x y v : Int32} : (am_up (am_up (am_up J 2 X x) 3 X y) 4 s v) 2 X = x ∧ (am_up (am_up (am_up J 2 X x) 3 X y) 4 s v) 3 X = y := ⟨by rw [am_up_ne (by omega), am_up_ne (by omega), up_s rfl], by rw [am_up_ne (by omega), up_s rfl]⟩
/-- two expressions joined by a sign put behind them -/
theorem join_both {n : Nat} {t : Nat → Nat} (hG : GT n t) (f dC dM : Nat) (LC LM : am_L) {b b' : Bool} {h1 h2 h k s p0 c0 m0 p1 a1 p2 p3 a3 o : Nat} {I0 J0 I1 J1 I2 J2 I3 J3 : am_I} {A B : List Nat} (hA : OKw n t b h1 k s p0 c0 m0 I0 J0 I1 J1 A p1 a1) (fI : FC (c0 + A.length) I1 I2) (fJ : FM s (m0 + A.length) J1 J2) (hB : OKw n t b' h2 k s p2 (c0 + A.length) (m0 + A.length) I2 J2 I3 J3 B p3 a3) (hp : p1 < p2) (ho : o ≤ 8) (hh1 : h1 ≤ h) (hh2 : h2 + 1 ≤ h) (hs : s ≤ 4) (hc : c0 ≤ p0) (hm : m0 ≤ p0) : ∃ I4 J4, fX2_put f dC (cO o) I3 LC = some (I4, LC) ∧ fX12_put f dM (mO o) (nI 0) J3 LM = some (J4, LM) ∧ OKw n t (decide (4 ≤ o)) h k s p0 c0 m0 I0 J0 I4 J4 (A ++ (B ++ [20000 + o])) p3 a3 := by
  have g := hG.1
  obtain ⟨e1, e2, e3, e4, e5, e6, e7, e8, e9, e10, e11⟩ := hA
  obtain ⟨b1, b2, b3, b4, b5, b6, b7, b8, b9, b10, b11⟩ := hB
  have p3n : p3 ≤ n := by rw [← b4]; exact nb_le b5
  have len := len3 A B (20000 + o)
  have pc := lc_put f dC LC b2 (by omega) (cO o)
  have pm := lm_put f dM LM b3.2.2.2.2.1 b3.2.2.2.2.2 hs (by omega) (mO o) (nI 0)
  have fp := FC_put I3 (c0 + A.length + B.length) (cO o) (nI (c0 + A.length + B.length + 1))
  have fq := FM_put J3 s (m0 + A.length + B.length) (mO o) (nI 0) (nI (m0 + A.length + B.length + 1))
  refine ⟨_, _, pc, pm, EX_join e1 b1 ho hh1 hh2, ?_, ?_, b4, b5, by omega, ?_, ?_, ?_, FC_tr e10 (FC_tr fI (FC_tr b10 fp (by omega)) (Nat.le_refl _)) (by omega), FM_tr e11 (FM_tr fJ (FM_tr b11 fq (by omega)) (Nat.le_refl _)) (by omega)⟩
  · rw [len, show c0 + (A.length + B.length + 1) = c0 + A.length + B.length + 1 by omega]
    exact PC_put b2 (cO o)
  · rw [len, show m0 + (A.length + B.length + 1) = m0 + A.length + B.length + 1 by omega]
    exact PM_put b3 (mO o) (nI 0)
  · refine (RQ_app A c0 _).mpr ⟨RQ_ext A c0 (fun j _ j2 => ?_) e7, (RQ_app B _ _).mpr ⟨RQ_ext B _ (fun j _ j2 => fp.2 j j2) b7, ?_, trivial⟩⟩
    · rw [fp.2 j (by omega), b10.2 j j2, fI.2 j j2]
    · rw [am_up_ne (by omega), up_s rfl, cw_o ho]
  · refine (RQ_app A _ _).mpr ⟨RQ_ext A _ (fun j _ j2 => ?_) e8, (RQ_app B _ _).mpr ⟨?_, ?_, trivial⟩⟩
    · rw [fq.2.2.1 j (by omega), b11.2.2.1 j (by omega), fJ.2.2.1 j (by omega)]
    · rw [show 520 * s + m0 + A.length = 520 * s + (m0 + A.length) by omega]
      exact RQ_ext B _ (fun j _ j2 => fq.2.2.1 j (by omega)) b8
    · rw [show 520 * s + m0 + A.length + B.length = 520 * s + (m0 + A.length + B.length) by omega, mk_o ho]
      exact put_pm.1
  · refine (RQ_app A _ _).mpr ⟨RQ_ext A _ (fun j _ j2 => ?_) e9, (RQ_app B _ _).mpr ⟨?_, ?_, trivial⟩⟩
    · rw [fq.2.2.2.1 j (by omega), b11.2.2.2.1 j (by omega), fJ.2.2.2.1 j (by omega)]
    · rw [show 520 * s + m0 + A.length = 520 * s + (m0 + A.length) by omega]
      exact RQ_ext B _ (fun j _ j2 => fq.2.2.2.1 j (by omega)) b9
    · rw [show 520 * s + m0 + A.length + B.length = 520 * s + (m0 + A.length + B.length) by omega, mv_o]
      exact put_pm.2
/-- past a sign on both sides: frames and states -/
theorem pass_both {n : Nat} {t : Nat → Nat} {k s p a c m : Nat} {I J : am_I} (hI : PC n t I p c) (hJ : PM n t J a (-nI 1) k s m) : PC n t (am_up I 27 3 (nI (nb n t (p + 1)))) (nb n t (p + 1)) c ∧ PM n t (am_up (am_up J 0 3 (nI p)) 0 3 (nI (p + 1))) (p + 1) (-nI 1) k s m ∧ FC c I (am_up I 27 3 (nI (nb n t (p + 1)))) ∧ FM s m J (am_up (am_up J 0 3 (nI p)) 0 3 (nI (p + 1))) := ⟨PC_go hI _, PM_3 (PM_3 hJ p) (p + 1), FC_27 _ _ _ _, FM_tr (FM_0 s m J (Or.inl rfl) _) (FM_0 s m _ (Or.inl rfl) _) (Nat.le_refl _)⟩
theorem term_stop (f d : Nat) (gm : Nat → Int32 → Int32 → Int32 → Int32 → Int32 → am_I → am_L → Option (Int32 × am_I × am_L)) (J : am_I) (L : am_L) : ∀ F, 0 < F → fX12_term_b21 f d gm F (-nI 1) J L = some (J, L)
  | 0, h => by omega
  | F + 1, _ => by simp (disch := omega) only [fX12_term_b21, fX12_term_b21w, zz_lt, li_0, li_1, li_2, li_3, li_4, li_5, li_6, li_7, li_8, li_9, li_10, li_11, li_12, li_15, li_16, li_20, li_21, li_24, li_25, li_26, li_32, li_33, li_38, li_40, li_41, li_42, li_43, li_45, li_47, li_48, li_57, li_58, li_59, li_60, li_61, li_62, li_63, li_74, li_75, li_84, li_91, li_93, li_98, li_100, li_103, li_105, li_107, li_109, li_110, li_111, li_112, li_115, li_118, li_119, li_120, li_121, li_124, li_140, li_180, li_206, li_240, li_255, li_420, li_520, li_999, li_1000, li_1771, li_8240, li_9999, li_88200, li_1000000, li_2097151, li_31, nI_add, pk_mul, zz_sub, zz_an, nI_clamp, zz_leT, zz_leF, zz_ltT, zz_ltF, zz_eqF, zz_eqT, zz_m1, zz_m2, zz_m3, zz_m4, zz_m5, zz_m6, zz_ck, zz_bl, zz_b3, zz_b2, zz_shl, zz_bt0, zz_bt1, pk_div, Nat.zero_add, Nat.add_zero, if_true, if_false, reduceIte, Nat.mul_zero, zz_or0, zz_inT, zz_inF]
theorem term_L {n : Nat} {t : Nat → Nat} (hG : GT n t) (f dC dM : Nat) (hf : 300 < f) (LC LM : am_L) {h h' E k s p0 c0 m0 : Nat} {I0 J0 : am_I} (hh : h' + 1 ≤ h) (hE : E < 500) (gc gm : Nat → Int32 → Int32 → Int32 → Int32 → Int32 → am_I → am_L → Option (Int32 × am_I × am_L)) (hsub : RX n t LC LM false h' E k (fun I => gc 2 (nI k) (nI 0) (nI 0) (nI 0) (nI 0) I LC) (fun J => gm 2 (nI 0) (nI 0) (nI 0) (nI 0) (nI 0) J LM)) (hs : s ≤ 4) (hc : c0 ≤ p0) (hm : m0 ≤ p0) : ∀ (F i F' : Nat) (I J : am_I) (ops : List Nat) (p a : Nat), OKw n t false h k s p0 c0 m0 I0 J0 I J ops p a → i ≤ p → n - p < F → n - p + 1 < F' → ∃ I' J', (fX2_readTerm_b12 f dC gc F (nI k) (nI i) I LC = some (nI 1, I', LC) ∧ fX12_term_b21 f dM gm F' (zn (bx n t p)) (am_up J 0 3 (nI p)) LM = some (J', LM) ∧ OKx n t false h k s p0 c0 m0 I0 J0 I' J') ∨ (fX2_readTerm_b12 f dC gc F (nI k) (nI i) I LC = some (nI 0, I', LC) ∧ fX12_term_b21 f dM gm F' (zn (bx n t p)) (am_up J 0 3 (nI p)) LM = some (J', LM) ∧ ERx s c0 m0 (E + 1) I0 J0 I' J')
  | 0, _, _, _, _, _, _, _, _, _, z, _ => by omega
  | _, _, 0, _, _, _, _, _, _, _, _, z => by omega
  | F + 1, i, F' + 1, I, J, ops, p, a, w, hi, f1, f2 => by
    have g := hG.1
    have w0 := w
    obtain ⟨e1, e2, e3, e4, e5, e6, e7, e8, e9, e10, e11⟩ := w
    have pn : p ≤ n := by rw [← e4]; exact nb_le e5
    have at1 := lc_at hG f dC LC e2 pn
    have i3 := e2.2.1
    have l3 := (PM_3 e3 p).2.1
    have stop := fun X Y (q : 0 < F') => term_stop f dM gm X Y F' q
    by_cases q42 : bx n t p = 43
    · have zb : zn (bx n t p) = nI 42 := by rw [q42]; rfl
      have pln : p < n := bx_in (t := t) (by omega)
      rw [zb] at at1
      have go := lc_gon hG f dC hf LC e2 pln
      obtain ⟨s1, s2, s3, s4⟩ := pass_both e2 e3
      have nbp := nb_ge n t (p + 1)
      obtain ⟨I3, J3, v, r | r⟩ := hsub _ _ (nb n t (p + 1)) (c0 + ops.length) (p + 1) s (m0 + ops.length) s1 s2 rfl (by omega) (by omega) (by omega) hs
      · obtain ⟨r1, r2, B, p3, a3, w3⟩ := r
        have r1' : gc 2 (nI k) (nI 0) (nI 0) (nI 0) (nI 0) (am_up I 27 3 (nI (nb n t (p + 1)))) LC = some (nI 1, I3, LC) := r1
        have r2' : gm 2 (nI 0) (nI 0) (nI 0) (nI 0) (nI 0) (am_up (am_up J 0 3 (nI p)) 0 3 (nI (p + 1))) LM = some (v, J3, LM) := r2
        obtain ⟨I4, J4, x1, x2, x3⟩ := join_both hG f dC dM LC LM w0 s3 s4 w3 (by omega) (o := 2) (h := h) (by omega) (by omega) hh hs hc hm
        have x1' : fX2_put f dC (-nI 13) I3 LC = some (I4, LC) := x1
        have x2' : fX12_put f dM (nI 4) (nI 0) J3 LM = some (J4, LM) := x2
        have h4 := x3.2.2.1.2.2.1
        have lk := lm_look hG f dM hf LM x3.2.2.1 x3.2.2.2.2.1
        rw [x3.2.2.2.1] at lk
        have lp3 := w3.2.2.2.2.2.1
        obtain ⟨I', J', y | y⟩ := term_L hG f dC dM hf LC LM hh hE gc gm hsub hs hc hm F (i + 1) F' I4 J4 (ops ++ (B ++ [20000 + 2])) p3 a3 x3 (by omega) (by omega) (by omega)
        · obtain ⟨y1, y2, y3⟩ := y
          refine ⟨I', J', Or.inl ⟨?_, ?_, y3⟩⟩
          · rw [← y1]; simp (disch := omega) only [fX2_readTerm_b12, fX2_readTerm_b12w, fX2_readTerm_b45, fX2_readTerm_b73, lj_13, lj_14, zz_lt, li_0, li_1, li_2, li_3, li_4, li_5, li_6, li_7, li_8, li_9, li_10, li_11, li_12, li_15, li_16, li_20, li_21, li_24, li_25, li_26, li_32, li_33, li_38, li_40, li_41, li_42, li_43, li_45, li_47, li_48, li_57, li_58, li_59, li_60, li_61, li_62, li_63, li_74, li_75, li_84, li_91, li_93, li_98, li_100, li_103, li_105, li_107, li_109, li_110, li_111, li_112, li_115, li_118, li_119, li_120, li_121, li_124, li_140, li_180, li_206, li_240, li_255, li_420, li_520, li_999, li_1000, li_1771, li_8240, li_9999, li_88200, li_1000000, li_2097151, li_31, nI_add, pk_mul, zz_sub, zz_an, nI_clamp, zz_leT, zz_leF, zz_ltT, zz_ltF, zz_eqF, zz_eqT, zz_m1, zz_m2, zz_m3, zz_m4, zz_m5, zz_m6, zz_ck, zz_bl, zz_b3, zz_b2, zz_shl, zz_bt0, zz_bt1, pk_div, Nat.zero_add, Nat.add_zero, if_true, if_false, reduceIte, Nat.mul_zero, zz_or0, zz_inT, zz_inF, i3, at1, go, r1', x1']
          · rw [← y2, zb]; simp (disch := omega) only [fX12_term_b21, fX12_term_b21w, fX12_term_b33, fX12_term_b59, fX12_term_b79, zz_lt, li_0, li_1, li_2, li_3, li_4, li_5, li_6, li_7, li_8, li_9, li_10, li_11, li_12, li_15, li_16, li_20, li_21, li_24, li_25, li_26, li_32, li_33, li_38, li_40, li_41, li_42, li_43, li_45, li_47, li_48, li_57, li_58, li_59, li_60, li_61, li_62, li_63, li_74, li_75, li_84, li_91, li_93, li_98, li_100, li_103, li_105, li_107, li_109, li_110, li_111, li_112, li_115, li_118, li_119, li_120, li_121, li_124, li_140, li_180, li_206, li_240, li_255, li_420, li_520, li_999, li_1000, li_1771, li_8240, li_9999, li_88200, li_1000000, li_2097151, li_31, nI_add, pk_mul, zz_sub, zz_an, nI_clamp, zz_leT, zz_leF, zz_ltT, zz_ltF, zz_eqF, zz_eqT, zz_m1, zz_m2, zz_m3, zz_m4, zz_m5, zz_m6, zz_ck, zz_bl, zz_b3, zz_b2, zz_shl, zz_bt0, zz_bt1, pk_div, Nat.zero_add, Nat.add_zero, if_true, if_false, reduceIte, Nat.mul_zero, zz_or0, zz_inT, zz_inF, l3, r2', x2', h4, lk]
        · obtain ⟨y1, y2, y3⟩ := y
          refine ⟨I', J', Or.inr ⟨?_, ?_, y3⟩⟩
          · rw [← y1]; simp (disch := omega) only [fX2_readTerm_b12, fX2_readTerm_b12w, fX2_readTerm_b45, fX2_readTerm_b73, lj_13, lj_14, zz_lt, li_0, li_1, li_2, li_3, li_4, li_5, li_6, li_7, li_8, li_9, li_10, li_11, li_12, li_15, li_16, li_20, li_21, li_24, li_25, li_26, li_32, li_33, li_38, li_40, li_41, li_42, li_43, li_45, li_47, li_48, li_57, li_58, li_59, li_60, li_61, li_62, li_63, li_74, li_75, li_84, li_91, li_93, li_98, li_100, li_103, li_105, li_107, li_109, li_110, li_111, li_112, li_115, li_118, li_119, li_120, li_121, li_124, li_140, li_180, li_206, li_240, li_255, li_420, li_520, li_999, li_1000, li_1771, li_8240, li_9999, li_88200, li_1000000, li_2097151, li_31, nI_add, pk_mul, zz_sub, zz_an, nI_clamp, zz_leT, zz_leF, zz_ltT, zz_ltF, zz_eqF, zz_eqT, zz_m1, zz_m2, zz_m3, zz_m4, zz_m5, zz_m6, zz_ck, zz_bl, zz_b3, zz_b2, zz_shl, zz_bt0, zz_bt1, pk_div, Nat.zero_add, Nat.add_zero, if_true, if_false, reduceIte, Nat.mul_zero, zz_or0, zz_inT, zz_inF, i3, at1, go, r1', x1']
          · rw [← y2, zb]; simp (disch := omega) only [fX12_term_b21, fX12_term_b21w, fX12_term_b33, fX12_term_b59, fX12_term_b79, zz_lt, li_0, li_1, li_2, li_3, li_4, li_5, li_6, li_7, li_8, li_9, li_10, li_11, li_12, li_15, li_16, li_20, li_21, li_24, li_25, li_26, li_32, li_33, li_38, li_40, li_41, li_42, li_43, li_45, li_47, li_48, li_57, li_58, li_59, li_60, li_61, li_62, li_63, li_74, li_75, li_84, li_91, li_93, li_98, li_100, li_103, li_105, li_107, li_109, li_110, li_111, li_112, li_115, li_118, li_119, li_120, li_121, li_124, li_140, li_180, li_206, li_240, li_255, li_420, li_520, li_999, li_1000, li_1771, li_8240, li_9999, li_88200, li_1000000, li_2097151, li_31, nI_add, pk_mul, zz_sub, zz_an, nI_clamp, zz_leT, zz_leF, zz_ltT, zz_ltF, zz_eqF, zz_eqT, zz_m1, zz_m2, zz_m3, zz_m4, zz_m5, zz_m6, zz_ck, zz_bl, zz_b3, zz_b2, zz_shl, zz_bt0, zz_bt1, pk_div, Nat.zero_add, Nat.add_zero, if_true, if_false, reduceIte, Nat.mul_zero, zz_or0, zz_inT, zz_inF, l3, r2', x2', h4, lk]
      · obtain ⟨r1, r2, e, z1, z2, z3, z4⟩ := r
        have r1' : gc 2 (nI k) (nI 0) (nI 0) (nI 0) (nI 0) (am_up I 27 3 (nI (nb n t (p + 1)))) LC = some (nI 0, I3, LC) := r1
        have r2' : gm 2 (nI 0) (nI 0) (nI 0) (nI 0) (nI 0) (am_up (am_up J 0 3 (nI p)) 0 3 (nI (p + 1))) LM = some (v, J3, LM) := r2
        obtain ⟨J4, x2, x3, x4⟩ := mf_put f dM LM z2 hs (by omega) (nI 4) (nI 0)
        have h4 := x3.1
        have he := x3.2.1
        have st := stop J4 LM (by omega)
        refine ⟨I3, J4, Or.inr ⟨?_, ?_, e, z1, mf_lo x3 (by omega), FC_tr e10 (FC_tr s3 z3 (Nat.le_refl _)) (by omega), FM_tr e11 (FM_tr s4 (FM_tr z4 x4 (Nat.le_refl _)) (Nat.le_refl _)) (by omega)⟩⟩
        · simp (disch := omega) only [fX2_readTerm_b12, fX2_readTerm_b12w, fX2_readTerm_b45, fX2_readTerm_b73, zz_lt, li_0, li_1, li_2, li_3, li_4, li_5, li_6, li_7, li_8, li_9, li_10, li_11, li_12, li_15, li_16, li_20, li_21, li_24, li_25, li_26, li_32, li_33, li_38, li_40, li_41, li_42, li_43, li_45, li_47, li_48, li_57, li_58, li_59, li_60, li_61, li_62, li_63, li_74, li_75, li_84, li_91, li_93, li_98, li_100, li_103, li_105, li_107, li_109, li_110, li_111, li_112, li_115, li_118, li_119, li_120, li_121, li_124, li_140, li_180, li_206, li_240, li_255, li_420, li_520, li_999, li_1000, li_1771, li_8240, li_9999, li_88200, li_1000000, li_2097151, li_31, nI_add, pk_mul, zz_sub, zz_an, nI_clamp, zz_leT, zz_leF, zz_ltT, zz_ltF, zz_eqF, zz_eqT, zz_m1, zz_m2, zz_m3, zz_m4, zz_m5, zz_m6, zz_ck, zz_bl, zz_b3, zz_b2, zz_shl, zz_bt0, zz_bt1, pk_div, Nat.zero_add, Nat.add_zero, if_true, if_false, reduceIte, Nat.mul_zero, zz_or0, zz_inT, zz_inF, i3, at1, go, r1']
        · rw [zb]; simp (disch := omega) only [fX12_term_b21, fX12_term_b21w, fX12_term_b33, fX12_term_b59, fX12_term_b79, zz_lt, li_0, li_1, li_2, li_3, li_4, li_5, li_6, li_7, li_8, li_9, li_10, li_11, li_12, li_15, li_16, li_20, li_21, li_24, li_25, li_26, li_32, li_33, li_38, li_40, li_41, li_42, li_43, li_45, li_47, li_48, li_57, li_58, li_59, li_60, li_61, li_62, li_63, li_74, li_75, li_84, li_91, li_93, li_98, li_100, li_103, li_105, li_107, li_109, li_110, li_111, li_112, li_115, li_118, li_119, li_120, li_121, li_124, li_140, li_180, li_206, li_240, li_255, li_420, li_520, li_999, li_1000, li_1771, li_8240, li_9999, li_88200, li_1000000, li_2097151, li_31, nI_add, pk_mul, zz_sub, zz_an, nI_clamp, zz_leT, zz_leF, zz_ltT, zz_ltF, zz_eqF, zz_eqT, zz_m1, zz_m2, zz_m3, zz_m4, zz_m5, zz_m6, zz_ck, zz_bl, zz_b3, zz_b2, zz_shl, zz_bt0, zz_bt1, pk_div, Nat.zero_add, Nat.add_zero, if_true, if_false, reduceIte, Nat.mul_zero, zz_or0, zz_inT, zz_inF, l3, r2', x2, h4, st]
    by_cases q47 : bx n t p = 48
    · have zb : zn (bx n t p) = nI 47 := by rw [q47]; rfl
      have pln : p < n := bx_in (t := t) (by omega)
      rw [zb] at at1
      have go := lc_gon hG f dC hf LC e2 pln
      obtain ⟨s1, s2, s3, s4⟩ := pass_both e2 e3
      have nbp := nb_ge n t (p + 1)
      obtain ⟨I3, J3, v, r | r⟩ := hsub _ _ (nb n t (p + 1)) (c0 + ops.length) (p + 1) s (m0 + ops.length) s1 s2 rfl (by omega) (by omega) (by omega) hs
      · obtain ⟨r1, r2, B, p3, a3, w3⟩ := r
        have r1' : gc 2 (nI k) (nI 0) (nI 0) (nI 0) (nI 0) (am_up I 27 3 (nI (nb n t (p + 1)))) LC = some (nI 1, I3, LC) := r1
        have r2' : gm 2 (nI 0) (nI 0) (nI 0) (nI 0) (nI 0) (am_up (am_up J 0 3 (nI p)) 0 3 (nI (p + 1))) LM = some (v, J3, LM) := r2
        obtain ⟨I4, J4, x1, x2, x3⟩ := join_both hG f dC dM LC LM w0 s3 s4 w3 (by omega) (o := 3) (h := h) (by omega) (by omega) hh hs hc hm
        have x1' : fX2_put f dC (-nI 14) I3 LC = some (I4, LC) := x1
        have x2' : fX12_put f dM (nI 5) (nI 0) J3 LM = some (J4, LM) := x2
        have h4 := x3.2.2.1.2.2.1
        have lk := lm_look hG f dM hf LM x3.2.2.1 x3.2.2.2.2.1
        rw [x3.2.2.2.1] at lk
        have lp3 := w3.2.2.2.2.2.1
        obtain ⟨I', J', y | y⟩ := term_L hG f dC dM hf LC LM hh hE gc gm hsub hs hc hm F (i + 1) F' I4 J4 (ops ++ (B ++ [20000 + 3])) p3 a3 x3 (by omega) (by omega) (by omega)
        · obtain ⟨y1, y2, y3⟩ := y
          refine ⟨I', J', Or.inl ⟨?_, ?_, y3⟩⟩
          · rw [← y1]; simp (disch := omega) only [fX2_readTerm_b12, fX2_readTerm_b12w, fX2_readTerm_b45, fX2_readTerm_b73, lj_13, lj_14, zz_lt, li_0, li_1, li_2, li_3, li_4, li_5, li_6, li_7, li_8, li_9, li_10, li_11, li_12, li_15, li_16, li_20, li_21, li_24, li_25, li_26, li_32, li_33, li_38, li_40, li_41, li_42, li_43, li_45, li_47, li_48, li_57, li_58, li_59, li_60, li_61, li_62, li_63, li_74, li_75, li_84, li_91, li_93, li_98, li_100, li_103, li_105, li_107, li_109, li_110, li_111, li_112, li_115, li_118, li_119, li_120, li_121, li_124, li_140, li_180, li_206, li_240, li_255, li_420, li_520, li_999, li_1000, li_1771, li_8240, li_9999, li_88200, li_1000000, li_2097151, li_31, nI_add, pk_mul, zz_sub, zz_an, nI_clamp, zz_leT, zz_leF, zz_ltT, zz_ltF, zz_eqF, zz_eqT, zz_m1, zz_m2, zz_m3, zz_m4, zz_m5, zz_m6, zz_ck, zz_bl, zz_b3, zz_b2, zz_shl, zz_bt0, zz_bt1, pk_div, Nat.zero_add, Nat.add_zero, if_true, if_false, reduceIte, Nat.mul_zero, zz_or0, zz_inT, zz_inF, i3, at1, go, r1', x1']
          · rw [← y2, zb]; simp (disch := omega) only [fX12_term_b21, fX12_term_b21w, fX12_term_b33, fX12_term_b59, fX12_term_b79, zz_lt, li_0, li_1, li_2, li_3, li_4, li_5, li_6, li_7, li_8, li_9, li_10, li_11, li_12, li_15, li_16, li_20, li_21, li_24, li_25, li_26, li_32, li_33, li_38, li_40, li_41, li_42, li_43, li_45, li_47, li_48, li_57, li_58, li_59, li_60, li_61, li_62, li_63, li_74, li_75, li_84, li_91, li_93, li_98, li_100, li_103, li_105, li_107, li_109, li_110, li_111, li_112, li_115, li_118, li_119, li_120, li_121, li_124, li_140, li_180, li_206, li_240, li_255, li_420, li_520, li_999, li_1000, li_1771, li_8240, li_9999, li_88200, li_1000000, li_2097151, li_31, nI_add, pk_mul, zz_sub, zz_an, nI_clamp, zz_leT, zz_leF, zz_ltT, zz_ltF, zz_eqF, zz_eqT, zz_m1, zz_m2, zz_m3, zz_m4, zz_m5, zz_m6, zz_ck, zz_bl, zz_b3, zz_b2, zz_shl, zz_bt0, zz_bt1, pk_div, Nat.zero_add, Nat.add_zero, if_true, if_false, reduceIte, Nat.mul_zero, zz_or0, zz_inT, zz_inF, l3, r2', x2', h4, lk]
        · obtain ⟨y1, y2, y3⟩ := y
          refine ⟨I', J', Or.inr ⟨?_, ?_, y3⟩⟩
          · rw [← y1]; simp (disch := omega) only [fX2_readTerm_b12, fX2_readTerm_b12w, fX2_readTerm_b45, fX2_readTerm_b73, lj_13, lj_14, zz_lt, li_0, li_1, li_2, li_3, li_4, li_5, li_6, li_7, li_8, li_9, li_10, li_11, li_12, li_15, li_16, li_20, li_21, li_24, li_25, li_26, li_32, li_33, li_38, li_40, li_41, li_42, li_43, li_45, li_47, li_48, li_57, li_58, li_59, li_60, li_61, li_62, li_63, li_74, li_75, li_84, li_91, li_93, li_98, li_100, li_103, li_105, li_107, li_109, li_110, li_111, li_112, li_115, li_118, li_119, li_120, li_121, li_124, li_140, li_180, li_206, li_240, li_255, li_420, li_520, li_999, li_1000, li_1771, li_8240, li_9999, li_88200, li_1000000, li_2097151, li_31, nI_add, pk_mul, zz_sub, zz_an, nI_clamp, zz_leT, zz_leF, zz_ltT, zz_ltF, zz_eqF, zz_eqT, zz_m1, zz_m2, zz_m3, zz_m4, zz_m5, zz_m6, zz_ck, zz_bl, zz_b3, zz_b2, zz_shl, zz_bt0, zz_bt1, pk_div, Nat.zero_add, Nat.add_zero, if_true, if_false, reduceIte, Nat.mul_zero, zz_or0, zz_inT, zz_inF, i3, at1, go, r1', x1']
          · rw [← y2, zb]; simp (disch := omega) only [fX12_term_b21, fX12_term_b21w, fX12_term_b33, fX12_term_b59, fX12_term_b79, zz_lt, li_0, li_1, li_2, li_3, li_4, li_5, li_6, li_7, li_8, li_9, li_10, li_11, li_12, li_15, li_16, li_20, li_21, li_24, li_25, li_26, li_32, li_33, li_38, li_40, li_41, li_42, li_43, li_45, li_47, li_48, li_57, li_58, li_59, li_60, li_61, li_62, li_63, li_74, li_75, li_84, li_91, li_93, li_98, li_100, li_103, li_105, li_107, li_109, li_110, li_111, li_112, li_115, li_118, li_119, li_120, li_121, li_124, li_140, li_180, li_206, li_240, li_255, li_420, li_520, li_999, li_1000, li_1771, li_8240, li_9999, li_88200, li_1000000, li_2097151, li_31, nI_add, pk_mul, zz_sub, zz_an, nI_clamp, zz_leT, zz_leF, zz_ltT, zz_ltF, zz_eqF, zz_eqT, zz_m1, zz_m2, zz_m3, zz_m4, zz_m5, zz_m6, zz_ck, zz_bl, zz_b3, zz_b2, zz_shl, zz_bt0, zz_bt1, pk_div, Nat.zero_add, Nat.add_zero, if_true, if_false, reduceIte, Nat.mul_zero, zz_or0, zz_inT, zz_inF, l3, r2', x2', h4, lk]
      · obtain ⟨r1, r2, e, z1, z2, z3, z4⟩ := r
        have r1' : gc 2 (nI k) (nI 0) (nI 0) (nI 0) (nI 0) (am_up I 27 3 (nI (nb n t (p + 1)))) LC = some (nI 0, I3, LC) := r1
        have r2' : gm 2 (nI 0) (nI 0) (nI 0) (nI 0) (nI 0) (am_up (am_up J 0 3 (nI p)) 0 3 (nI (p + 1))) LM = some (v, J3, LM) := r2
        obtain ⟨J4, x2, x3, x4⟩ := mf_put f dM LM z2 hs (by omega) (nI 5) (nI 0)
        have h4 := x3.1
        have he := x3.2.1
        have st := stop J4 LM (by omega)
        refine ⟨I3, J4, Or.inr ⟨?_, ?_, e, z1, mf_lo x3 (by omega), FC_tr e10 (FC_tr s3 z3 (Nat.le_refl _)) (by omega), FM_tr e11 (FM_tr s4 (FM_tr z4 x4 (Nat.le_refl _)) (Nat.le_refl _)) (by omega)⟩⟩
        · simp (disch := omega) only [fX2_readTerm_b12, fX2_readTerm_b12w, fX2_readTerm_b45, fX2_readTerm_b73, zz_lt, li_0, li_1, li_2, li_3, li_4, li_5, li_6, li_7, li_8, li_9, li_10, li_11, li_12, li_15, li_16, li_20, li_21, li_24, li_25, li_26, li_32, li_33, li_38, li_40, li_41, li_42, li_43, li_45, li_47, li_48, li_57, li_58, li_59, li_60, li_61, li_62, li_63, li_74, li_75, li_84, li_91, li_93, li_98, li_100, li_103, li_105, li_107, li_109, li_110, li_111, li_112, li_115, li_118, li_119, li_120, li_121, li_124, li_140, li_180, li_206, li_240, li_255, li_420, li_520, li_999, li_1000, li_1771, li_8240, li_9999, li_88200, li_1000000, li_2097151, li_31, nI_add, pk_mul, zz_sub, zz_an, nI_clamp, zz_leT, zz_leF, zz_ltT, zz_ltF, zz_eqF, zz_eqT, zz_m1, zz_m2, zz_m3, zz_m4, zz_m5, zz_m6, zz_ck, zz_bl, zz_b3, zz_b2, zz_shl, zz_bt0, zz_bt1, pk_div, Nat.zero_add, Nat.add_zero, if_true, if_false, reduceIte, Nat.mul_zero, zz_or0, zz_inT, zz_inF, i3, at1, go, r1']
        · rw [zb]; simp (disch := omega) only [fX12_term_b21, fX12_term_b21w, fX12_term_b33, fX12_term_b59, fX12_term_b79, zz_lt, li_0, li_1, li_2, li_3, li_4, li_5, li_6, li_7, li_8, li_9, li_10, li_11, li_12, li_15, li_16, li_20, li_21, li_24, li_25, li_26, li_32, li_33, li_38, li_40, li_41, li_42, li_43, li_45, li_47, li_48, li_57, li_58, li_59, li_60, li_61, li_62, li_63, li_74, li_75, li_84, li_91, li_93, li_98, li_100, li_103, li_105, li_107, li_109, li_110, li_111, li_112, li_115, li_118, li_119, li_120, li_121, li_124, li_140, li_180, li_206, li_240, li_255, li_420, li_520, li_999, li_1000, li_1771, li_8240, li_9999, li_88200, li_1000000, li_2097151, li_31, nI_add, pk_mul, zz_sub, zz_an, nI_clamp, zz_leT, zz_leF, zz_ltT, zz_ltF, zz_eqF, zz_eqT, zz_m1, zz_m2, zz_m3, zz_m4, zz_m5, zz_m6, zz_ck, zz_bl, zz_b3, zz_b2, zz_shl, zz_bt0, zz_bt1, pk_div, Nat.zero_add, Nat.add_zero, if_true, if_false, reduceIte, Nat.mul_zero, zz_or0, zz_inT, zz_inF, l3, r2', x2, h4, st]
    have n1 : (zn (bx n t p) = nI 42) = False := (zn_ch (bx_le hG p) (by omega)).trans (eq_false q42)
    have n2 : (zn (bx n t p) = nI 47) = False := (zn_ch (bx_le hG p) (by omega)).trans (eq_false q47)
    refine ⟨I, am_up J 0 3 (nI p), Or.inl ⟨?_, ?_, ops, p, p, e1, e2, PM_3 e3 p, ?_, pn, e6, e7, by rw [am_up_ne (by omega)]; exact e8, by rw [am_up_ne (by omega)]; exact e9, e10, FM_tr e11 (FM_0 s _ J (Or.inl rfl) _) (by omega)⟩⟩
    · simp (disch := omega) only [fX2_readTerm_b12, fX2_readTerm_b12w, zz_lt, li_0, li_1, li_2, li_3, li_4, li_5, li_6, li_7, li_8, li_9, li_10, li_11, li_12, li_15, li_16, li_20, li_21, li_24, li_25, li_26, li_32, li_33, li_38, li_40, li_41, li_42, li_43, li_45, li_47, li_48, li_57, li_58, li_59, li_60, li_61, li_62, li_63, li_74, li_75, li_84, li_91, li_93, li_98, li_100, li_103, li_105, li_107, li_109, li_110, li_111, li_112, li_115, li_118, li_119, li_120, li_121, li_124, li_140, li_180, li_206, li_240, li_255, li_420, li_520, li_999, li_1000, li_1771, li_8240, li_9999, li_88200, li_1000000, li_2097151, li_31, nI_add, pk_mul, zz_sub, zz_an, nI_clamp, zz_leT, zz_leF, zz_ltT, zz_ltF, zz_eqF, zz_eqT, zz_m1, zz_m2, zz_m3, zz_m4, zz_m5, zz_m6, zz_ck, zz_bl, zz_b3, zz_b2, zz_shl, zz_bt0, zz_bt1, pk_div, Nat.zero_add, Nat.add_zero, if_true, if_false, reduceIte, Nat.mul_zero, zz_or0, zz_inT, zz_inF, i3, at1, n1, n2]
    · simp (disch := omega) only [fX12_term_b21, fX12_term_b21w, zz_lt, li_0, li_1, li_2, li_3, li_4, li_5, li_6, li_7, li_8, li_9, li_10, li_11, li_12, li_15, li_16, li_20, li_21, li_24, li_25, li_26, li_32, li_33, li_38, li_40, li_41, li_42, li_43, li_45, li_47, li_48, li_57, li_58, li_59, li_60, li_61, li_62, li_63, li_74, li_75, li_84, li_91, li_93, li_98, li_100, li_103, li_105, li_107, li_109, li_110, li_111, li_112, li_115, li_118, li_119, li_120, li_121, li_124, li_140, li_180, li_206, li_240, li_255, li_420, li_520, li_999, li_1000, li_1771, li_8240, li_9999, li_88200, li_1000000, li_2097151, li_31, nI_add, pk_mul, zz_sub, zz_an, nI_clamp, zz_leT, zz_leF, zz_ltT, zz_ltF, zz_eqF, zz_eqT, zz_m1, zz_m2, zz_m3, zz_m4, zz_m5, zz_m6, zz_ck, zz_bl, zz_b3, zz_b2, zz_shl, zz_bt0, zz_bt1, pk_div, Nat.zero_add, Nat.add_zero, if_true, if_false, reduceIte, Nat.mul_zero, zz_or0, zz_inT, zz_inF, n1, n2]
    · rw [← e4]; exact nb_id e5
theorem term_both {n : Nat} {t : Nat → Nat} (hG : GT n t) (f dC dM : Nat) (hf : 300 < f) (LC LM : am_L) {h h' E k : Nat} (hh : h' + 1 ≤ h) (hE : E < 500) (gc gm : Nat → Int32 → Int32 → Int32 → Int32 → Int32 → am_I → am_L → Option (Int32 × am_I × am_L)) (hsub : RX n t LC LM false h' E k (fun I => gc 2 (nI k) (nI 0) (nI 0) (nI 0) (nI 0) I LC) (fun J => gm 2 (nI 0) (nI 0) (nI 0) (nI 0) (nI 0) J LM)) : RX n t LC LM false h (E + 1) k (fun I => fX2_readTerm_g f dC gc (nI k) I LC) (fun J => am_b2 (fX12_term_g f dM gm J LM) (fun I L => some (nI 0, I, L))) := by
  intro I J p c a s m hI hJ hn ha hc hm hs
  have g := hG.1
  obtain ⟨I1, J1, v, r | r⟩ := hsub I J p c a s m hI hJ hn ha hc hm hs
  · obtain ⟨r1, r2, A, p1, a1, e1, w⟩ := r
    have r1' : gc 2 (nI k) (nI 0) (nI 0) (nI 0) (nI 0) I LC = some (nI 1, I1, LC) := r1
    have r2' : gm 2 (nI 0) (nI 0) (nI 0) (nI 0) (nI 0) J LM = some (v, J1, LM) := r2
    have w' : OKw n t false h k s p c m I J I1 J1 A p1 a1 := ⟨EX_up e1 (by omega), w⟩
    have h4 := w'.2.2.1.2.2.1
    have lk := lm_look hG f dM hf LM w'.2.2.1 w'.2.2.2.2.1
    rw [w'.2.2.2.1] at lk
    obtain ⟨I', J', y | y⟩ := term_L hG f dC dM hf LC LM hh hE gc gm hsub hs hc hm f 0 f I1 J1 A p1 a1 w' (by omega) (by omega) (by omega)
    · obtain ⟨y1, y2, y3⟩ := y
      refine ⟨I', J', nI 0, Or.inl ⟨?_, ?_, y3⟩⟩
      · simp (disch := omega) only [fX2_readTerm_g, zz_lt, li_0, li_1, li_2, li_3, li_4, li_5, li_6, li_7, li_8, li_9, li_10, li_11, li_12, li_15, li_16, li_20, li_21, li_24, li_25, li_26, li_32, li_33, li_38, li_40, li_41, li_42, li_43, li_45, li_47, li_48, li_57, li_58, li_59, li_60, li_61, li_62, li_63, li_74, li_75, li_84, li_91, li_93, li_98, li_100, li_103, li_105, li_107, li_109, li_110, li_111, li_112, li_115, li_118, li_119, li_120, li_121, li_124, li_140, li_180, li_206, li_240, li_255, li_420, li_520, li_999, li_1000, li_1771, li_8240, li_9999, li_88200, li_1000000, li_2097151, li_31, nI_add, pk_mul, zz_sub, zz_an, nI_clamp, zz_leT, zz_leF, zz_ltT, zz_ltF, zz_eqF, zz_eqT, zz_m1, zz_m2, zz_m3, zz_m4, zz_m5, zz_m6, zz_ck, zz_bl, zz_b3, zz_b2, zz_shl, zz_bt0, zz_bt1, pk_div, Nat.zero_add, Nat.add_zero, if_true, if_false, reduceIte, Nat.mul_zero, zz_or0, zz_inT, zz_inF, r1', y1]
      · simp (disch := omega) only [fX12_term_g, fX12_term_b20, zz_lt, li_0, li_1, li_2, li_3, li_4, li_5, li_6, li_7, li_8, li_9, li_10, li_11, li_12, li_15, li_16, li_20, li_21, li_24, li_25, li_26, li_32, li_33, li_38, li_40, li_41, li_42, li_43, li_45, li_47, li_48, li_57, li_58, li_59, li_60, li_61, li_62, li_63, li_74, li_75, li_84, li_91, li_93, li_98, li_100, li_103, li_105, li_107, li_109, li_110, li_111, li_112, li_115, li_118, li_119, li_120, li_121, li_124, li_140, li_180, li_206, li_240, li_255, li_420, li_520, li_999, li_1000, li_1771, li_8240, li_9999, li_88200, li_1000000, li_2097151, li_31, nI_add, pk_mul, zz_sub, zz_an, nI_clamp, zz_leT, zz_leF, zz_ltT, zz_ltF, zz_eqF, zz_eqT, zz_m1, zz_m2, zz_m3, zz_m4, zz_m5, zz_m6, zz_ck, zz_bl, zz_b3, zz_b2, zz_shl, zz_bt0, zz_bt1, pk_div, Nat.zero_add, Nat.add_zero, if_true, if_false, reduceIte, Nat.mul_zero, zz_or0, zz_inT, zz_inF, r2', h4, lk, y2]
    · obtain ⟨y1, y2, y3⟩ := y
      refine ⟨I', J', nI 0, Or.inr ⟨?_, ?_, y3⟩⟩
      · simp (disch := omega) only [fX2_readTerm_g, zz_lt, li_0, li_1, li_2, li_3, li_4, li_5, li_6, li_7, li_8, li_9, li_10, li_11, li_12, li_15, li_16, li_20, li_21, li_24, li_25, li_26, li_32, li_33, li_38, li_40, li_41, li_42, li_43, li_45, li_47, li_48, li_57, li_58, li_59, li_60, li_61, li_62, li_63, li_74, li_75, li_84, li_91, li_93, li_98, li_100, li_103, li_105, li_107, li_109, li_110, li_111, li_112, li_115, li_118, li_119, li_120, li_121, li_124, li_140, li_180, li_206, li_240, li_255, li_420, li_520, li_999, li_1000, li_1771, li_8240, li_9999, li_88200, li_1000000, li_2097151, li_31, nI_add, pk_mul, zz_sub, zz_an, nI_clamp, zz_leT, zz_leF, zz_ltT, zz_ltF, zz_eqF, zz_eqT, zz_m1, zz_m2, zz_m3, zz_m4, zz_m5, zz_m6, zz_ck, zz_bl, zz_b3, zz_b2, zz_shl, zz_bt0, zz_bt1, pk_div, Nat.zero_add, Nat.add_zero, if_true, if_false, reduceIte, Nat.mul_zero, zz_or0, zz_inT, zz_inF, r1', y1]
      · simp (disch := omega) only [fX12_term_g, fX12_term_b20, zz_lt, li_0, li_1, li_2, li_3, li_4, li_5, li_6, li_7, li_8, li_9, li_10, li_11, li_12, li_15, li_16, li_20, li_21, li_24, li_25, li_26, li_32, li_33, li_38, li_40, li_41, li_42, li_43, li_45, li_47, li_48, li_57, li_58, li_59, li_60, li_61, li_62, li_63, li_74, li_75, li_84, li_91, li_93, li_98, li_100, li_103, li_105, li_107, li_109, li_110, li_111, li_112, li_115, li_118, li_119, li_120, li_121, li_124, li_140, li_180, li_206, li_240, li_255, li_420, li_520, li_999, li_1000, li_1771, li_8240, li_9999, li_88200, li_1000000, li_2097151, li_31, nI_add, pk_mul, zz_sub, zz_an, nI_clamp, zz_leT, zz_leF, zz_ltT, zz_ltF, zz_eqF, zz_eqT, zz_m1, zz_m2, zz_m3, zz_m4, zz_m5, zz_m6, zz_ck, zz_bl, zz_b3, zz_b2, zz_shl, zz_bt0, zz_bt1, pk_div, Nat.zero_add, Nat.add_zero, if_true, if_false, reduceIte, Nat.mul_zero, zz_or0, zz_inT, zz_inF, r2', h4, lk, y2]
  · obtain ⟨r1, r2, e, z1, z2, z3, z4⟩ := r
    have r1' : gc 2 (nI k) (nI 0) (nI 0) (nI 0) (nI 0) I LC = some (nI 0, I1, LC) := r1
    have r2' : gm 2 (nI 0) (nI 0) (nI 0) (nI 0) (nI 0) J LM = some (v, J1, LM) := r2
    have h4 := z2.1
    have he := z2.2.1
    have st := term_stop f dM gm J1 LM f (by omega)
    refine ⟨I1, J1, nI 0, Or.inr ⟨?_, ?_, e, z1, mf_hi z2 (by omega), z3, z4⟩⟩
    · simp (disch := omega) only [fX2_readTerm_g, zz_lt, li_0, li_1, li_2, li_3, li_4, li_5, li_6, li_7, li_8, li_9, li_10, li_11, li_12, li_15, li_16, li_20, li_21, li_24, li_25, li_26, li_32, li_33, li_38, li_40, li_41, li_42, li_43, li_45, li_47, li_48, li_57, li_58, li_59, li_60, li_61, li_62, li_63, li_74, li_75, li_84, li_91, li_93, li_98, li_100, li_103, li_105, li_107, li_109, li_110, li_111, li_112, li_115, li_118, li_119, li_120, li_121, li_124, li_140, li_180, li_206, li_240, li_255, li_420, li_520, li_999, li_1000, li_1771, li_8240, li_9999, li_88200, li_1000000, li_2097151, li_31, nI_add, pk_mul, zz_sub, zz_an, nI_clamp, zz_leT, zz_leF, zz_ltT, zz_ltF, zz_eqF, zz_eqT, zz_m1, zz_m2, zz_m3, zz_m4, zz_m5, zz_m6, zz_ck, zz_bl, zz_b3, zz_b2, zz_shl, zz_bt0, zz_bt1, pk_div, Nat.zero_add, Nat.add_zero, if_true, if_false, reduceIte, Nat.mul_zero, zz_or0, zz_inT, zz_inF, r1']
    · simp (disch := omega) only [fX12_term_g, fX12_term_b20, zz_lt, li_0, li_1, li_2, li_3, li_4, li_5, li_6, li_7, li_8, li_9, li_10, li_11, li_12, li_15, li_16, li_20, li_21, li_24, li_25, li_26, li_32, li_33, li_38, li_40, li_41, li_42, li_43, li_45, li_47, li_48, li_57, li_58, li_59, li_60, li_61, li_62, li_63, li_74, li_75, li_84, li_91, li_93, li_98, li_100, li_103, li_105, li_107, li_109, li_110, li_111, li_112, li_115, li_118, li_119, li_120, li_121, li_124, li_140, li_180, li_206, li_240, li_255, li_420, li_520, li_999, li_1000, li_1771, li_8240, li_9999, li_88200, li_1000000, li_2097151, li_31, nI_add, pk_mul, zz_sub, zz_an, nI_clamp, zz_leT, zz_leF, zz_ltT, zz_ltF, zz_eqF, zz_eqT, zz_m1, zz_m2, zz_m3, zz_m4, zz_m5, zz_m6, zz_ck, zz_bl, zz_b3, zz_b2, zz_shl, zz_bt0, zz_bt1, pk_div, Nat.zero_add, Nat.add_zero, if_true, if_false, reduceIte, Nat.mul_zero, zz_or0, zz_inT, zz_inF, r2', h4, st]
theorem sum_stop (f d : Nat) (gm : Nat → Int32 → Int32 → Int32 → Int32 → Int32 → am_I → am_L → Option (Int32 × am_I × am_L)) (J : am_I) (L : am_L) : ∀ F, 0 < F → fX12_sum_b21 f d gm F (-nI 1) J L = some (J, L)
  | 0, h => by omega
  | F + 1, _ => by simp (disch := omega) only [fX12_sum_b21, fX12_sum_b21w, zz_lt, li_0, li_1, li_2, li_3, li_4, li_5, li_6, li_7, li_8, li_9, li_10, li_11, li_12, li_15, li_16, li_20, li_21, li_24, li_25, li_26, li_32, li_33, li_38, li_40, li_41, li_42, li_43, li_45, li_47, li_48, li_57, li_58, li_59, li_60, li_61, li_62, li_63, li_74, li_75, li_84, li_91, li_93, li_98, li_100, li_103, li_105, li_107, li_109, li_110, li_111, li_112, li_115, li_118, li_119, li_120, li_121, li_124, li_140, li_180, li_206, li_240, li_255, li_420, li_520, li_999, li_1000, li_1771, li_8240, li_9999, li_88200, li_1000000, li_2097151, li_31, nI_add, pk_mul, zz_sub, zz_an, nI_clamp, zz_leT, zz_leF, zz_ltT, zz_ltF, zz_eqF, zz_eqT, zz_m1, zz_m2, zz_m3, zz_m4, zz_m5, zz_m6, zz_ck, zz_bl, zz_b3, zz_b2, zz_shl, zz_bt0, zz_bt1, pk_div, Nat.zero_add, Nat.add_zero, if_true, if_false, reduceIte, Nat.mul_zero, zz_or0, zz_inT, zz_inF]
theorem sum_L {n : Nat} {t : Nat → Nat} (hG : GT n t) (f dC dM : Nat) (hf : 300 < f) (LC LM : am_L) {h h' E k s p0 c0 m0 : Nat} {I0 J0 : am_I} (hh : h' + 1 ≤ h) (hE : E < 500) (gc gm : Nat → Int32 → Int32 → Int32 → Int32 → Int32 → am_I → am_L → Option (Int32 × am_I × am_L)) (hsub : RX n t LC LM false h' E k (fun I => gc 1 (nI k) (nI 0) (nI 0) (nI 0) (nI 0) I LC) (fun J => gm 1 (nI 0) (nI 0) (nI 0) (nI 0) (nI 0) J LM)) (hs : s ≤ 4) (hc : c0 ≤ p0) (hm : m0 ≤ p0) : ∀ (F i F' : Nat) (I J : am_I) (ops : List Nat) (p a : Nat), OKw n t false h k s p0 c0 m0 I0 J0 I J ops p a → i ≤ p → n - p < F → n - p + 1 < F' → ∃ I' J', (fX2_readSum_b12 f dC gc F (nI k) (nI i) I LC = some (nI 1, I', LC) ∧ fX12_sum_b21 f dM gm F' (zn (bx n t p)) (am_up J 0 3 (nI p)) LM = some (J', LM) ∧ OKx n t false h k s p0 c0 m0 I0 J0 I' J') ∨ (fX2_readSum_b12 f dC gc F (nI k) (nI i) I LC = some (nI 0, I', LC) ∧ fX12_sum_b21 f dM gm F' (zn (bx n t p)) (am_up J 0 3 (nI p)) LM = some (J', LM) ∧ ERx s c0 m0 (E + 1) I0 J0 I' J')
  | 0, _, _, _, _, _, _, _, _, _, z, _ => by omega
  | _, _, 0, _, _, _, _, _, _, _, _, z => by omega
  | F + 1, i, F' + 1, I, J, ops, p, a, w, hi, f1, f2 => by
    have g := hG.1
    have w0 := w
    obtain ⟨e1, e2, e3, e4, e5, e6, e7, e8, e9, e10, e11⟩ := w
    have pn : p ≤ n := by rw [← e4]; exact nb_le e5
    have at1 := lc_at hG f dC LC e2 pn
    have i3 := e2.2.1
    have l3 := (PM_3 e3 p).2.1
    have stop := fun X Y (q : 0 < F') => sum_stop f dM gm X Y F' q
    by_cases q43 : bx n t p = 44
    · have zb : zn (bx n t p) = nI 43 := by rw [q43]; rfl
      have pln : p < n := bx_in (t := t) (by omega)
      rw [zb] at at1
      have go := lc_gon hG f dC hf LC e2 pln
      obtain ⟨s1, s2, s3, s4⟩ := pass_both e2 e3
      have nbp := nb_ge n t (p + 1)
      obtain ⟨I3, J3, v, r | r⟩ := hsub _ _ (nb n t (p + 1)) (c0 + ops.length) (p + 1) s (m0 + ops.length) s1 s2 rfl (by omega) (by omega) (by omega) hs
      · obtain ⟨r1, r2, B, p3, a3, w3⟩ := r
        have r1' : gc 1 (nI k) (nI 0) (nI 0) (nI 0) (nI 0) (am_up I 27 3 (nI (nb n t (p + 1)))) LC = some (nI 1, I3, LC) := r1
        have r2' : gm 1 (nI 0) (nI 0) (nI 0) (nI 0) (nI 0) (am_up (am_up J 0 3 (nI p)) 0 3 (nI (p + 1))) LM = some (v, J3, LM) := r2
        obtain ⟨I4, J4, x1, x2, x3⟩ := join_both hG f dC dM LC LM w0 s3 s4 w3 (by omega) (o := 0) (h := h) (by omega) (by omega) hh hs hc hm
        have x1' : fX2_put f dC (-nI 11) I3 LC = some (I4, LC) := x1
        have x2' : fX12_put f dM (nI 2) (nI 0) J3 LM = some (J4, LM) := x2
        have h4 := x3.2.2.1.2.2.1
        have lk := lm_look hG f dM hf LM x3.2.2.1 x3.2.2.2.2.1
        rw [x3.2.2.2.1] at lk
        have lp3 := w3.2.2.2.2.2.1
        obtain ⟨I', J', y | y⟩ := sum_L hG f dC dM hf LC LM hh hE gc gm hsub hs hc hm F (i + 1) F' I4 J4 (ops ++ (B ++ [20000 + 0])) p3 a3 x3 (by omega) (by omega) (by omega)
        · obtain ⟨y1, y2, y3⟩ := y
          refine ⟨I', J', Or.inl ⟨?_, ?_, y3⟩⟩
          · rw [← y1]; simp (disch := omega) only [fX2_readSum_b12, fX2_readSum_b12w, fX2_readSum_b45, fX2_readSum_b73, lj_13, lj_14, zz_lt, li_0, li_1, li_2, li_3, li_4, li_5, li_6, li_7, li_8, li_9, li_10, li_11, li_12, li_15, li_16, li_20, li_21, li_24, li_25, li_26, li_32, li_33, li_38, li_40, li_41, li_42, li_43, li_45, li_47, li_48, li_57, li_58, li_59, li_60, li_61, li_62, li_63, li_74, li_75, li_84, li_91, li_93, li_98, li_100, li_103, li_105, li_107, li_109, li_110, li_111, li_112, li_115, li_118, li_119, li_120, li_121, li_124, li_140, li_180, li_206, li_240, li_255, li_420, li_520, li_999, li_1000, li_1771, li_8240, li_9999, li_88200, li_1000000, li_2097151, li_31, nI_add, pk_mul, zz_sub, zz_an, nI_clamp, zz_leT, zz_leF, zz_ltT, zz_ltF, zz_eqF, zz_eqT, zz_m1, zz_m2, zz_m3, zz_m4, zz_m5, zz_m6, zz_ck, zz_bl, zz_b3, zz_b2, zz_shl, zz_bt0, zz_bt1, pk_div, Nat.zero_add, Nat.add_zero, if_true, if_false, reduceIte, Nat.mul_zero, zz_or0, zz_inT, zz_inF, i3, at1, go, r1', x1']
          · rw [← y2, zb]; simp (disch := omega) only [fX12_sum_b21, fX12_sum_b21w, fX12_sum_b33, fX12_sum_b59, fX12_sum_b79, zz_lt, li_0, li_1, li_2, li_3, li_4, li_5, li_6, li_7, li_8, li_9, li_10, li_11, li_12, li_15, li_16, li_20, li_21, li_24, li_25, li_26, li_32, li_33, li_38, li_40, li_41, li_42, li_43, li_45, li_47, li_48, li_57, li_58, li_59, li_60, li_61, li_62, li_63, li_74, li_75, li_84, li_91, li_93, li_98, li_100, li_103, li_105, li_107, li_109, li_110, li_111, li_112, li_115, li_118, li_119, li_120, li_121, li_124, li_140, li_180, li_206, li_240, li_255, li_420, li_520, li_999, li_1000, li_1771, li_8240, li_9999, li_88200, li_1000000, li_2097151, li_31, nI_add, pk_mul, zz_sub, zz_an, nI_clamp, zz_leT, zz_leF, zz_ltT, zz_ltF, zz_eqF, zz_eqT, zz_m1, zz_m2, zz_m3, zz_m4, zz_m5, zz_m6, zz_ck, zz_bl, zz_b3, zz_b2, zz_shl, zz_bt0, zz_bt1, pk_div, Nat.zero_add, Nat.add_zero, if_true, if_false, reduceIte, Nat.mul_zero, zz_or0, zz_inT, zz_inF, l3, r2', x2', h4, lk]
        · obtain ⟨y1, y2, y3⟩ := y
          refine ⟨I', J', Or.inr ⟨?_, ?_, y3⟩⟩
          · rw [← y1]; simp (disch := omega) only [fX2_readSum_b12, fX2_readSum_b12w, fX2_readSum_b45, fX2_readSum_b73, lj_13, lj_14, zz_lt, li_0, li_1, li_2, li_3, li_4, li_5, li_6, li_7, li_8, li_9, li_10, li_11, li_12, li_15, li_16, li_20, li_21, li_24, li_25, li_26, li_32, li_33, li_38, li_40, li_41, li_42, li_43, li_45, li_47, li_48, li_57, li_58, li_59, li_60, li_61, li_62, li_63, li_74, li_75, li_84, li_91, li_93, li_98, li_100, li_103, li_105, li_107, li_109, li_110, li_111, li_112, li_115, li_118, li_119, li_120, li_121, li_124, li_140, li_180, li_206, li_240, li_255, li_420, li_520, li_999, li_1000, li_1771, li_8240, li_9999, li_88200, li_1000000, li_2097151, li_31, nI_add, pk_mul, zz_sub, zz_an, nI_clamp, zz_leT, zz_leF, zz_ltT, zz_ltF, zz_eqF, zz_eqT, zz_m1, zz_m2, zz_m3, zz_m4, zz_m5, zz_m6, zz_ck, zz_bl, zz_b3, zz_b2, zz_shl, zz_bt0, zz_bt1, pk_div, Nat.zero_add, Nat.add_zero, if_true, if_false, reduceIte, Nat.mul_zero, zz_or0, zz_inT, zz_inF, i3, at1, go, r1', x1']
          · rw [← y2, zb]; simp (disch := omega) only [fX12_sum_b21, fX12_sum_b21w, fX12_sum_b33, fX12_sum_b59, fX12_sum_b79, zz_lt, li_0, li_1, li_2, li_3, li_4, li_5, li_6, li_7, li_8, li_9, li_10, li_11, li_12, li_15, li_16, li_20, li_21, li_24, li_25, li_26, li_32, li_33, li_38, li_40, li_41, li_42, li_43, li_45, li_47, li_48, li_57, li_58, li_59, li_60, li_61, li_62, li_63, li_74, li_75, li_84, li_91, li_93, li_98, li_100, li_103, li_105, li_107, li_109, li_110, li_111, li_112, li_115, li_118, li_119, li_120, li_121, li_124, li_140, li_180, li_206, li_240, li_255, li_420, li_520, li_999, li_1000, li_1771, li_8240, li_9999, li_88200, li_1000000, li_2097151, li_31, nI_add, pk_mul, zz_sub, zz_an, nI_clamp, zz_leT, zz_leF, zz_ltT, zz_ltF, zz_eqF, zz_eqT, zz_m1, zz_m2, zz_m3, zz_m4, zz_m5, zz_m6, zz_ck, zz_bl, zz_b3, zz_b2, zz_shl, zz_bt0, zz_bt1, pk_div, Nat.zero_add, Nat.add_zero, if_true, if_false, reduceIte, Nat.mul_zero, zz_or0, zz_inT, zz_inF, l3, r2', x2', h4, lk]
      · obtain ⟨r1, r2, e, z1, z2, z3, z4⟩ := r
        have r1' : gc 1 (nI k) (nI 0) (nI 0) (nI 0) (nI 0) (am_up I 27 3 (nI (nb n t (p + 1)))) LC = some (nI 0, I3, LC) := r1
        have r2' : gm 1 (nI 0) (nI 0) (nI 0) (nI 0) (nI 0) (am_up (am_up J 0 3 (nI p)) 0 3 (nI (p + 1))) LM = some (v, J3, LM) := r2
        obtain ⟨J4, x2, x3, x4⟩ := mf_put f dM LM z2 hs (by omega) (nI 2) (nI 0)
        have h4 := x3.1
        have he := x3.2.1
        have st := stop J4 LM (by omega)
        refine ⟨I3, J4, Or.inr ⟨?_, ?_, e, z1, mf_lo x3 (by omega), FC_tr e10 (FC_tr s3 z3 (Nat.le_refl _)) (by omega), FM_tr e11 (FM_tr s4 (FM_tr z4 x4 (Nat.le_refl _)) (Nat.le_refl _)) (by omega)⟩⟩
        · simp (disch := omega) only [fX2_readSum_b12, fX2_readSum_b12w, fX2_readSum_b45, fX2_readSum_b73, zz_lt, li_0, li_1, li_2, li_3, li_4, li_5, li_6, li_7, li_8, li_9, li_10, li_11, li_12, li_15, li_16, li_20, li_21, li_24, li_25, li_26, li_32, li_33, li_38, li_40, li_41, li_42, li_43, li_45, li_47, li_48, li_57, li_58, li_59, li_60, li_61, li_62, li_63, li_74, li_75, li_84, li_91, li_93, li_98, li_100, li_103, li_105, li_107, li_109, li_110, li_111, li_112, li_115, li_118, li_119, li_120, li_121, li_124, li_140, li_180, li_206, li_240, li_255, li_420, li_520, li_999, li_1000, li_1771, li_8240, li_9999, li_88200, li_1000000, li_2097151, li_31, nI_add, pk_mul, zz_sub, zz_an, nI_clamp, zz_leT, zz_leF, zz_ltT, zz_ltF, zz_eqF, zz_eqT, zz_m1, zz_m2, zz_m3, zz_m4, zz_m5, zz_m6, zz_ck, zz_bl, zz_b3, zz_b2, zz_shl, zz_bt0, zz_bt1, pk_div, Nat.zero_add, Nat.add_zero, if_true, if_false, reduceIte, Nat.mul_zero, zz_or0, zz_inT, zz_inF, i3, at1, go, r1']
        · rw [zb]; simp (disch := omega) only [fX12_sum_b21, fX12_sum_b21w, fX12_sum_b33, fX12_sum_b59, fX12_sum_b79, zz_lt, li_0, li_1, li_2, li_3, li_4, li_5, li_6, li_7, li_8, li_9, li_10, li_11, li_12, li_15, li_16, li_20, li_21, li_24, li_25, li_26, li_32, li_33, li_38, li_40, li_41, li_42, li_43, li_45, li_47, li_48, li_57, li_58, li_59, li_60, li_61, li_62, li_63, li_74, li_75, li_84, li_91, li_93, li_98, li_100, li_103, li_105, li_107, li_109, li_110, li_111, li_112, li_115, li_118, li_119, li_120, li_121, li_124, li_140, li_180, li_206, li_240, li_255, li_420, li_520, li_999, li_1000, li_1771, li_8240, li_9999, li_88200, li_1000000, li_2097151, li_31, nI_add, pk_mul, zz_sub, zz_an, nI_clamp, zz_leT, zz_leF, zz_ltT, zz_ltF, zz_eqF, zz_eqT, zz_m1, zz_m2, zz_m3, zz_m4, zz_m5, zz_m6, zz_ck, zz_bl, zz_b3, zz_b2, zz_shl, zz_bt0, zz_bt1, pk_div, Nat.zero_add, Nat.add_zero, if_true, if_false, reduceIte, Nat.mul_zero, zz_or0, zz_inT, zz_inF, l3, r2', x2, h4, st]
    by_cases q45 : bx n t p = 46
    · have zb : zn (bx n t p) = nI 45 := by rw [q45]; rfl
      have pln : p < n := bx_in (t := t) (by omega)
      rw [zb] at at1
      have go := lc_gon hG f dC hf LC e2 pln
      obtain ⟨s1, s2, s3, s4⟩ := pass_both e2 e3
      have nbp := nb_ge n t (p + 1)
      obtain ⟨I3, J3, v, r | r⟩ := hsub _ _ (nb n t (p + 1)) (c0 + ops.length) (p + 1) s (m0 + ops.length) s1 s2 rfl (by omega) (by omega) (by omega) hs
      · obtain ⟨r1, r2, B, p3, a3, w3⟩ := r
        have r1' : gc 1 (nI k) (nI 0) (nI 0) (nI 0) (nI 0) (am_up I 27 3 (nI (nb n t (p + 1)))) LC = some (nI 1, I3, LC) := r1
        have r2' : gm 1 (nI 0) (nI 0) (nI 0) (nI 0) (nI 0) (am_up (am_up J 0 3 (nI p)) 0 3 (nI (p + 1))) LM = some (v, J3, LM) := r2
        obtain ⟨I4, J4, x1, x2, x3⟩ := join_both hG f dC dM LC LM w0 s3 s4 w3 (by omega) (o := 1) (h := h) (by omega) (by omega) hh hs hc hm
        have x1' : fX2_put f dC (-nI 12) I3 LC = some (I4, LC) := x1
        have x2' : fX12_put f dM (nI 3) (nI 0) J3 LM = some (J4, LM) := x2
        have h4 := x3.2.2.1.2.2.1
        have lk := lm_look hG f dM hf LM x3.2.2.1 x3.2.2.2.2.1
        rw [x3.2.2.2.1] at lk
        have lp3 := w3.2.2.2.2.2.1
        obtain ⟨I', J', y | y⟩ := sum_L hG f dC dM hf LC LM hh hE gc gm hsub hs hc hm F (i + 1) F' I4 J4 (ops ++ (B ++ [20000 + 1])) p3 a3 x3 (by omega) (by omega) (by omega)
        · obtain ⟨y1, y2, y3⟩ := y
          refine ⟨I', J', Or.inl ⟨?_, ?_, y3⟩⟩
          · rw [← y1]; simp (disch := omega) only [fX2_readSum_b12, fX2_readSum_b12w, fX2_readSum_b45, fX2_readSum_b73, lj_13, lj_14, zz_lt, li_0, li_1, li_2, li_3, li_4, li_5, li_6, li_7, li_8, li_9, li_10, li_11, li_12, li_15, li_16, li_20, li_21, li_24, li_25, li_26, li_32, li_33, li_38, li_40, li_41, li_42, li_43, li_45, li_47, li_48, li_57, li_58, li_59, li_60, li_61, li_62, li_63, li_74, li_75, li_84, li_91, li_93, li_98, li_100, li_103, li_105, li_107, li_109, li_110, li_111, li_112, li_115, li_118, li_119, li_120, li_121, li_124, li_140, li_180, li_206, li_240, li_255, li_420, li_520, li_999, li_1000, li_1771, li_8240, li_9999, li_88200, li_1000000, li_2097151, li_31, nI_add, pk_mul, zz_sub, zz_an, nI_clamp, zz_leT, zz_leF, zz_ltT, zz_ltF, zz_eqF, zz_eqT, zz_m1, zz_m2, zz_m3, zz_m4, zz_m5, zz_m6, zz_ck, zz_bl, zz_b3, zz_b2, zz_shl, zz_bt0, zz_bt1, pk_div, Nat.zero_add, Nat.add_zero, if_true, if_false, reduceIte, Nat.mul_zero, zz_or0, zz_inT, zz_inF, i3, at1, go, r1', x1']
          · rw [← y2, zb]; simp (disch := omega) only [fX12_sum_b21, fX12_sum_b21w, fX12_sum_b33, fX12_sum_b59, fX12_sum_b79, zz_lt, li_0, li_1, li_2, li_3, li_4, li_5, li_6, li_7, li_8, li_9, li_10, li_11, li_12, li_15, li_16, li_20, li_21, li_24, li_25, li_26, li_32, li_33, li_38, li_40, li_41, li_42, li_43, li_45, li_47, li_48, li_57, li_58, li_59, li_60, li_61, li_62, li_63, li_74, li_75, li_84, li_91, li_93, li_98, li_100, li_103, li_105, li_107, li_109, li_110, li_111, li_112, li_115, li_118, li_119, li_120, li_121, li_124, li_140, li_180, li_206, li_240, li_255, li_420, li_520, li_999, li_1000, li_1771, li_8240, li_9999, li_88200, li_1000000, li_2097151, li_31, nI_add, pk_mul, zz_sub, zz_an, nI_clamp, zz_leT, zz_leF, zz_ltT, zz_ltF, zz_eqF, zz_eqT, zz_m1, zz_m2, zz_m3, zz_m4, zz_m5, zz_m6, zz_ck, zz_bl, zz_b3, zz_b2, zz_shl, zz_bt0, zz_bt1, pk_div, Nat.zero_add, Nat.add_zero, if_true, if_false, reduceIte, Nat.mul_zero, zz_or0, zz_inT, zz_inF, l3, r2', x2', h4, lk]
        · obtain ⟨y1, y2, y3⟩ := y
          refine ⟨I', J', Or.inr ⟨?_, ?_, y3⟩⟩
          · rw [← y1]; simp (disch := omega) only [fX2_readSum_b12, fX2_readSum_b12w, fX2_readSum_b45, fX2_readSum_b73, lj_13, lj_14, zz_lt, li_0, li_1, li_2, li_3, li_4, li_5, li_6, li_7, li_8, li_9, li_10, li_11, li_12, li_15, li_16, li_20, li_21, li_24, li_25, li_26, li_32, li_33, li_38, li_40, li_41, li_42, li_43, li_45, li_47, li_48, li_57, li_58, li_59, li_60, li_61, li_62, li_63, li_74, li_75, li_84, li_91, li_93, li_98, li_100, li_103, li_105, li_107, li_109, li_110, li_111, li_112, li_115, li_118, li_119, li_120, li_121, li_124, li_140, li_180, li_206, li_240, li_255, li_420, li_520, li_999, li_1000, li_1771, li_8240, li_9999, li_88200, li_1000000, li_2097151, li_31, nI_add, pk_mul, zz_sub, zz_an, nI_clamp, zz_leT, zz_leF, zz_ltT, zz_ltF, zz_eqF, zz_eqT, zz_m1, zz_m2, zz_m3, zz_m4, zz_m5, zz_m6, zz_ck, zz_bl, zz_b3, zz_b2, zz_shl, zz_bt0, zz_bt1, pk_div, Nat.zero_add, Nat.add_zero, if_true, if_false, reduceIte, Nat.mul_zero, zz_or0, zz_inT, zz_inF, i3, at1, go, r1', x1']
          · rw [← y2, zb]; simp (disch := omega) only [fX12_sum_b21, fX12_sum_b21w, fX12_sum_b33, fX12_sum_b59, fX12_sum_b79, zz_lt, li_0, li_1, li_2, li_3, li_4, li_5, li_6, li_7, li_8, li_9, li_10, li_11, li_12, li_15, li_16, li_20, li_21, li_24, li_25, li_26, li_32, li_33, li_38, li_40, li_41, li_42, li_43, li_45, li_47, li_48, li_57, li_58, li_59, li_60, li_61, li_62, li_63, li_74, li_75, li_84, li_91, li_93, li_98, li_100, li_103, li_105, li_107, li_109, li_110, li_111, li_112, li_115, li_118, li_119, li_120, li_121, li_124, li_140, li_180, li_206, li_240, li_255, li_420, li_520, li_999, li_1000, li_1771, li_8240, li_9999, li_88200, li_1000000, li_2097151, li_31, nI_add, pk_mul, zz_sub, zz_an, nI_clamp, zz_leT, zz_leF, zz_ltT, zz_ltF, zz_eqF, zz_eqT, zz_m1, zz_m2, zz_m3, zz_m4, zz_m5, zz_m6, zz_ck, zz_bl, zz_b3, zz_b2, zz_shl, zz_bt0, zz_bt1, pk_div, Nat.zero_add, Nat.add_zero, if_true, if_false, reduceIte, Nat.mul_zero, zz_or0, zz_inT, zz_inF, l3, r2', x2', h4, lk]
      · obtain ⟨r1, r2, e, z1, z2, z3, z4⟩ := r
        have r1' : gc 1 (nI k) (nI 0) (nI 0) (nI 0) (nI 0) (am_up I 27 3 (nI (nb n t (p + 1)))) LC = some (nI 0, I3, LC) := r1
        have r2' : gm 1 (nI 0) (nI 0) (nI 0) (nI 0) (nI 0) (am_up (am_up J 0 3 (nI p)) 0 3 (nI (p + 1))) LM = some (v, J3, LM) := r2
        obtain ⟨J4, x2, x3, x4⟩ := mf_put f dM LM z2 hs (by omega) (nI 3) (nI 0)
        have h4 := x3.1
        have he := x3.2.1
        have st := stop J4 LM (by omega)
        refine ⟨I3, J4, Or.inr ⟨?_, ?_, e, z1, mf_lo x3 (by omega), FC_tr e10 (FC_tr s3 z3 (Nat.le_refl _)) (by omega), FM_tr e11 (FM_tr s4 (FM_tr z4 x4 (Nat.le_refl _)) (Nat.le_refl _)) (by omega)⟩⟩
        · simp (disch := omega) only [fX2_readSum_b12, fX2_readSum_b12w, fX2_readSum_b45, fX2_readSum_b73, zz_lt, li_0, li_1, li_2, li_3, li_4, li_5, li_6, li_7, li_8, li_9, li_10, li_11, li_12, li_15, li_16, li_20, li_21, li_24, li_25, li_26, li_32, li_33, li_38, li_40, li_41, li_42, li_43, li_45, li_47, li_48, li_57, li_58, li_59, li_60, li_61, li_62, li_63, li_74, li_75, li_84, li_91, li_93, li_98, li_100, li_103, li_105, li_107, li_109, li_110, li_111, li_112, li_115, li_118, li_119, li_120, li_121, li_124, li_140, li_180, li_206, li_240, li_255, li_420, li_520, li_999, li_1000, li_1771, li_8240, li_9999, li_88200, li_1000000, li_2097151, li_31, nI_add, pk_mul, zz_sub, zz_an, nI_clamp, zz_leT, zz_leF, zz_ltT, zz_ltF, zz_eqF, zz_eqT, zz_m1, zz_m2, zz_m3, zz_m4, zz_m5, zz_m6, zz_ck, zz_bl, zz_b3, zz_b2, zz_shl, zz_bt0, zz_bt1, pk_div, Nat.zero_add, Nat.add_zero, if_true, if_false, reduceIte, Nat.mul_zero, zz_or0, zz_inT, zz_inF, i3, at1, go, r1']
        · rw [zb]; simp (disch := omega) only [fX12_sum_b21, fX12_sum_b21w, fX12_sum_b33, fX12_sum_b59, fX12_sum_b79, zz_lt, li_0, li_1, li_2, li_3, li_4, li_5, li_6, li_7, li_8, li_9, li_10, li_11, li_12, li_15, li_16, li_20, li_21, li_24, li_25, li_26, li_32, li_33, li_38, li_40, li_41, li_42, li_43, li_45, li_47, li_48, li_57, li_58, li_59, li_60, li_61, li_62, li_63, li_74, li_75, li_84, li_91, li_93, li_98, li_100, li_103, li_105, li_107, li_109, li_110, li_111, li_112, li_115, li_118, li_119, li_120, li_121, li_124, li_140, li_180, li_206, li_240, li_255, li_420, li_520, li_999, li_1000, li_1771, li_8240, li_9999, li_88200, li_1000000, li_2097151, li_31, nI_add, pk_mul, zz_sub, zz_an, nI_clamp, zz_leT, zz_leF, zz_ltT, zz_ltF, zz_eqF, zz_eqT, zz_m1, zz_m2, zz_m3, zz_m4, zz_m5, zz_m6, zz_ck, zz_bl, zz_b3, zz_b2, zz_shl, zz_bt0, zz_bt1, pk_div, Nat.zero_add, Nat.add_zero, if_true, if_false, reduceIte, Nat.mul_zero, zz_or0, zz_inT, zz_inF, l3, r2', x2, h4, st]
    have n1 : (zn (bx n t p) = nI 43) = False := (zn_ch (bx_le hG p) (by omega)).trans (eq_false q43)
    have n2 : (zn (bx n t p) = nI 45) = False := (zn_ch (bx_le hG p) (by omega)).trans (eq_false q45)
    refine ⟨I, am_up J 0 3 (nI p), Or.inl ⟨?_, ?_, ops, p, p, e1, e2, PM_3 e3 p, ?_, pn, e6, e7, by rw [am_up_ne (by omega)]; exact e8, by rw [am_up_ne (by omega)]; exact e9, e10, FM_tr e11 (FM_0 s _ J (Or.inl rfl) _) (by omega)⟩⟩
    · simp (disch := omega) only [fX2_readSum_b12, fX2_readSum_b12w, zz_lt, li_0, li_1, li_2, li_3, li_4, li_5, li_6, li_7, li_8, li_9, li_10, li_11, li_12, li_15, li_16, li_20, li_21, li_24, li_25, li_26, li_32, li_33, li_38, li_40, li_41, li_42, li_43, li_45, li_47, li_48, li_57, li_58, li_59, li_60, li_61, li_62, li_63, li_74, li_75, li_84, li_91, li_93, li_98, li_100, li_103, li_105, li_107, li_109, li_110, li_111, li_112, li_115, li_118, li_119, li_120, li_121, li_124, li_140, li_180, li_206, li_240, li_255, li_420, li_520, li_999, li_1000, li_1771, li_8240, li_9999, li_88200, li_1000000, li_2097151, li_31, nI_add, pk_mul, zz_sub, zz_an, nI_clamp, zz_leT, zz_leF, zz_ltT, zz_ltF, zz_eqF, zz_eqT, zz_m1, zz_m2, zz_m3, zz_m4, zz_m5, zz_m6, zz_ck, zz_bl, zz_b3, zz_b2, zz_shl, zz_bt0, zz_bt1, pk_div, Nat.zero_add, Nat.add_zero, if_true, if_false, reduceIte, Nat.mul_zero, zz_or0, zz_inT, zz_inF, i3, at1, n1, n2]
    · simp (disch := omega) only [fX12_sum_b21, fX12_sum_b21w, zz_lt, li_0, li_1, li_2, li_3, li_4, li_5, li_6, li_7, li_8, li_9, li_10, li_11, li_12, li_15, li_16, li_20, li_21, li_24, li_25, li_26, li_32, li_33, li_38, li_40, li_41, li_42, li_43, li_45, li_47, li_48, li_57, li_58, li_59, li_60, li_61, li_62, li_63, li_74, li_75, li_84, li_91, li_93, li_98, li_100, li_103, li_105, li_107, li_109, li_110, li_111, li_112, li_115, li_118, li_119, li_120, li_121, li_124, li_140, li_180, li_206, li_240, li_255, li_420, li_520, li_999, li_1000, li_1771, li_8240, li_9999, li_88200, li_1000000, li_2097151, li_31, nI_add, pk_mul, zz_sub, zz_an, nI_clamp, zz_leT, zz_leF, zz_ltT, zz_ltF, zz_eqF, zz_eqT, zz_m1, zz_m2, zz_m3, zz_m4, zz_m5, zz_m6, zz_ck, zz_bl, zz_b3, zz_b2, zz_shl, zz_bt0, zz_bt1, pk_div, Nat.zero_add, Nat.add_zero, if_true, if_false, reduceIte, Nat.mul_zero, zz_or0, zz_inT, zz_inF, n1, n2]
    · rw [← e4]; exact nb_id e5
theorem sum_both {n : Nat} {t : Nat → Nat} (hG : GT n t) (f dC dM : Nat) (hf : 300 < f) (LC LM : am_L) {h h' E k : Nat} (hh : h' + 1 ≤ h) (hE : E < 500) (gc gm : Nat → Int32 → Int32 → Int32 → Int32 → Int32 → am_I → am_L → Option (Int32 × am_I × am_L)) (hsub : RX n t LC LM false h' E k (fun I => gc 1 (nI k) (nI 0) (nI 0) (nI 0) (nI 0) I LC) (fun J => gm 1 (nI 0) (nI 0) (nI 0) (nI 0) (nI 0) J LM)) : RX n t LC LM false h (E + 1) k (fun I => fX2_readSum_g f dC gc (nI k) I LC) (fun J => am_b2 (fX12_sum_g f dM gm J LM) (fun I L => some (nI 0, I, L))) := by
  intro I J p c a s m hI hJ hn ha hc hm hs
  have g := hG.1
  obtain ⟨I1, J1, v, r | r⟩ := hsub I J p c a s m hI hJ hn ha hc hm hs
  · obtain ⟨r1, r2, A, p1, a1, e1, w⟩ := r
    have r1' : gc 1 (nI k) (nI 0) (nI 0) (nI 0) (nI 0) I LC = some (nI 1, I1, LC) := r1
    have r2' : gm 1 (nI 0) (nI 0) (nI 0) (nI 0) (nI 0) J LM = some (v, J1, LM) := r2
    have w' : OKw n t false h k s p c m I J I1 J1 A p1 a1 := ⟨EX_up e1 (by omega), w⟩
    have h4 := w'.2.2.1.2.2.1
    have lk := lm_look hG f dM hf LM w'.2.2.1 w'.2.2.2.2.1
    rw [w'.2.2.2.1] at lk
    obtain ⟨I', J', y | y⟩ := sum_L hG f dC dM hf LC LM hh hE gc gm hsub hs hc hm f 0 f I1 J1 A p1 a1 w' (by omega) (by omega) (by omega)
    · obtain ⟨y1, y2, y3⟩ := y
      refine ⟨I', J', nI 0, Or.inl ⟨?_, ?_, y3⟩⟩
      · simp (disch := omega) only [fX2_readSum_g, zz_lt, li_0, li_1, li_2, li_3, li_4, li_5, li_6, li_7, li_8, li_9, li_10, li_11, li_12, li_15, li_16, li_20, li_21, li_24, li_25, li_26, li_32, li_33, li_38, li_40, li_41, li_42, li_43, li_45, li_47, li_48, li_57, li_58, li_59, li_60, li_61, li_62, li_63, li_74, li_75, li_84, li_91, li_93, li_98, li_100, li_103, li_105, li_107, li_109, li_110, li_111, li_112, li_115, li_118, li_119, li_120, li_121, li_124, li_140, li_180, li_206, li_240, li_255, li_420, li_520, li_999, li_1000, li_1771, li_8240, li_9999, li_88200, li_1000000, li_2097151, li_31, nI_add, pk_mul, zz_sub, zz_an, nI_clamp, zz_leT, zz_leF, zz_ltT, zz_ltF, zz_eqF, zz_eqT, zz_m1, zz_m2, zz_m3, zz_m4, zz_m5, zz_m6, zz_ck, zz_bl, zz_b3, zz_b2, zz_shl, zz_bt0, zz_bt1, pk_div, Nat.zero_add, Nat.add_zero, if_true, if_false, reduceIte, Nat.mul_zero, zz_or0, zz_inT, zz_inF, r1', y1]
      · simp (disch := omega) only [fX12_sum_g, fX12_sum_b20, zz_lt, li_0, li_1, li_2, li_3, li_4, li_5, li_6, li_7, li_8, li_9, li_10, li_11, li_12, li_15, li_16, li_20, li_21, li_24, li_25, li_26, li_32, li_33, li_38, li_40, li_41, li_42, li_43, li_45, li_47, li_48, li_57, li_58, li_59, li_60, li_61, li_62, li_63, li_74, li_75, li_84, li_91, li_93, li_98, li_100, li_103, li_105, li_107, li_109, li_110, li_111, li_112, li_115, li_118, li_119, li_120, li_121, li_124, li_140, li_180, li_206, li_240, li_255, li_420, li_520, li_999, li_1000, li_1771, li_8240, li_9999, li_88200, li_1000000, li_2097151, li_31, nI_add, pk_mul, zz_sub, zz_an, nI_clamp, zz_leT, zz_leF, zz_ltT, zz_ltF, zz_eqF, zz_eqT, zz_m1, zz_m2, zz_m3, zz_m4, zz_m5, zz_m6, zz_ck, zz_bl, zz_b3, zz_b2, zz_shl, zz_bt0, zz_bt1, pk_div, Nat.zero_add, Nat.add_zero, if_true, if_false, reduceIte, Nat.mul_zero, zz_or0, zz_inT, zz_inF, r2', h4, lk, y2]
    · obtain ⟨y1, y2, y3⟩ := y
      refine ⟨I', J', nI 0, Or.inr ⟨?_, ?_, y3⟩⟩
      · simp (disch := omega) only [fX2_readSum_g, zz_lt, li_0, li_1, li_2, li_3, li_4, li_5, li_6, li_7, li_8, li_9, li_10, li_11, li_12, li_15, li_16, li_20, li_21, li_24, li_25, li_26, li_32, li_33, li_38, li_40, li_41, li_42, li_43, li_45, li_47, li_48, li_57, li_58, li_59, li_60, li_61, li_62, li_63, li_74, li_75, li_84, li_91, li_93, li_98, li_100, li_103, li_105, li_107, li_109, li_110, li_111, li_112, li_115, li_118, li_119, li_120, li_121, li_124, li_140, li_180, li_206, li_240, li_255, li_420, li_520, li_999, li_1000, li_1771, li_8240, li_9999, li_88200, li_1000000, li_2097151, li_31, nI_add, pk_mul, zz_sub, zz_an, nI_clamp, zz_leT, zz_leF, zz_ltT, zz_ltF, zz_eqF, zz_eqT, zz_m1, zz_m2, zz_m3, zz_m4, zz_m5, zz_m6, zz_ck, zz_bl, zz_b3, zz_b2, zz_shl, zz_bt0, zz_bt1, pk_div, Nat.zero_add, Nat.add_zero, if_true, if_false, reduceIte, Nat.mul_zero, zz_or0, zz_inT, zz_inF, r1', y1]
      · simp (disch := omega) only [fX12_sum_g, fX12_sum_b20, zz_lt, li_0, li_1, li_2, li_3, li_4, li_5, li_6, li_7, li_8, li_9, li_10, li_11, li_12, li_15, li_16, li_20, li_21, li_24, li_25, li_26, li_32, li_33, li_38, li_40, li_41, li_42, li_43, li_45, li_47, li_48, li_57, li_58, li_59, li_60, li_61, li_62, li_63, li_74, li_75, li_84, li_91, li_93, li_98, li_100, li_103, li_105, li_107, li_109, li_110, li_111, li_112, li_115, li_118, li_119, li_120, li_121, li_124, li_140, li_180, li_206, li_240, li_255, li_420, li_520, li_999, li_1000, li_1771, li_8240, li_9999, li_88200, li_1000000, li_2097151, li_31, nI_add, pk_mul, zz_sub, zz_an, nI_clamp, zz_leT, zz_leF, zz_ltT, zz_ltF, zz_eqF, zz_eqT, zz_m1, zz_m2, zz_m3, zz_m4, zz_m5, zz_m6, zz_ck, zz_bl, zz_b3, zz_b2, zz_shl, zz_bt0, zz_bt1, pk_div, Nat.zero_add, Nat.add_zero, if_true, if_false, reduceIte, Nat.mul_zero, zz_or0, zz_inT, zz_inF, r2', h4, lk, y2]
  · obtain ⟨r1, r2, e, z1, z2, z3, z4⟩ := r
    have r1' : gc 1 (nI k) (nI 0) (nI 0) (nI 0) (nI 0) I LC = some (nI 0, I1, LC) := r1
    have r2' : gm 1 (nI 0) (nI 0) (nI 0) (nI 0) (nI 0) J LM = some (v, J1, LM) := r2
    have h4 := z2.1
    have he := z2.2.1
    have st := sum_stop f dM gm J1 LM f (by omega)
    refine ⟨I1, J1, nI 0, Or.inr ⟨?_, ?_, e, z1, mf_hi z2 (by omega), z3, z4⟩⟩
    · simp (disch := omega) only [fX2_readSum_g, zz_lt, li_0, li_1, li_2, li_3, li_4, li_5, li_6, li_7, li_8, li_9, li_10, li_11, li_12, li_15, li_16, li_20, li_21, li_24, li_25, li_26, li_32, li_33, li_38, li_40, li_41, li_42, li_43, li_45, li_47, li_48, li_57, li_58, li_59, li_60, li_61, li_62, li_63, li_74, li_75, li_84, li_91, li_93, li_98, li_100, li_103, li_105, li_107, li_109, li_110, li_111, li_112, li_115, li_118, li_119, li_120, li_121, li_124, li_140, li_180, li_206, li_240, li_255, li_420, li_520, li_999, li_1000, li_1771, li_8240, li_9999, li_88200, li_1000000, li_2097151, li_31, nI_add, pk_mul, zz_sub, zz_an, nI_clamp, zz_leT, zz_leF, zz_ltT, zz_ltF, zz_eqF, zz_eqT, zz_m1, zz_m2, zz_m3, zz_m4, zz_m5, zz_m6, zz_ck, zz_bl, zz_b3, zz_b2, zz_shl, zz_bt0, zz_bt1, pk_div, Nat.zero_add, Nat.add_zero, if_true, if_false, reduceIte, Nat.mul_zero, zz_or0, zz_inT, zz_inF, r1']
    · simp (disch := omega) only [fX12_sum_g, fX12_sum_b20, zz_lt, li_0, li_1, li_2, li_3, li_4, li_5, li_6, li_7, li_8, li_9, li_10, li_11, li_12, li_15, li_16, li_20, li_21, li_24, li_25, li_26, li_32, li_33, li_38, li_40, li_41, li_42, li_43, li_45, li_47, li_48, li_57, li_58, li_59, li_60, li_61, li_62, li_63, li_74, li_75, li_84, li_91, li_93, li_98, li_100, li_103, li_105, li_107, li_109, li_110, li_111, li_112, li_115, li_118, li_119, li_120, li_121, li_124, li_140, li_180, li_206, li_240, li_255, li_420, li_520, li_999, li_1000, li_1771, li_8240, li_9999, li_88200, li_1000000, li_2097151, li_31, nI_add, pk_mul, zz_sub, zz_an, nI_clamp, zz_leT, zz_leF, zz_ltT, zz_ltF, zz_eqF, zz_eqT, zz_m1, zz_m2, zz_m3, zz_m4, zz_m5, zz_m6, zz_ck, zz_bl, zz_b3, zz_b2, zz_shl, zz_bt0, zz_bt1, pk_div, Nat.zero_add, Nat.add_zero, if_true, if_false, reduceIte, Nat.mul_zero, zz_or0, zz_inT, zz_inF, r2', h4, st]
theorem sum_all {n : Nat} {t : Nat → Nat} (hG : GT n t) (f : Nat) (hf : 300 < f) (LC LM : am_L) : ∀ (r k dC dM : Nat), k + r = 6 → 3 * r + 3 ≤ dC → 3 * r + 3 ≤ dM → RX n t LC LM false (15 - 2 * k) (255 - 2 * k) k (fun I => gX2_readSum f dC 0 (nI k) (nI 0) (nI 0) (nI 0) (nI 0) I LC) (fun J => gX12_sum f dM 0 (nI 0) (nI 0) (nI 0) (nI 0) (nI 0) J LM) := by
  intro r
  induction r with
  | zero =>
    intro k dC dM hk hC hM
    obtain ⟨d, rfl⟩ : ∃ d, dC = d + 3 := ⟨dC - 3, by omega⟩
    obtain ⟨d', rfl⟩ : ∃ d', dM = d' + 3 := ⟨dM - 3, by omega⟩
    have k6 : k = 6 := by omega
    subst k6
    have A := at_both hG f d d' hf LC LM (h := 1) (E := 241) (k := 6) (by omega) (by omega) (by omega) (gX2_readSum f d) (gX12_sum f d') (fun z => by omega)
    have B := term_both hG f (d + 1) (d' + 1) hf LC LM (h := 2) (h' := 1) (E := 241) (k := 6) (by omega) (by omega) (gX2_readSum f (d + 1)) (gX12_sum f (d' + 1)) A
    exact sum_both hG f (d + 2) (d' + 2) hf LC LM (h := 3) (h' := 2) (E := 242) (k := 6) (by omega) (by omega) (gX2_readSum f (d + 2)) (gX12_sum f (d' + 2)) B
  | succ r ih =>
    intro k dC dM hk hC hM
    obtain ⟨d, rfl⟩ : ∃ d, dC = d + 3 := ⟨dC - 3, by omega⟩
    obtain ⟨d', rfl⟩ : ∃ d', dM = d' + 3 := ⟨dM - 3, by omega⟩
    have S := ih (k + 1) d d' (by omega) (by omega) (by omega)
    rw [show 15 - 2 * (k + 1) = 13 - 2 * k by omega, show 255 - 2 * (k + 1) = 253 - 2 * k by omega] at S
    have A := at_both hG f d d' hf LC LM (h := 13 - 2 * k) (E := 253 - 2 * k) (k := k) (by omega) (by omega) (by omega) (gX2_readSum f d) (gX12_sum f d') (fun _ => S)
    have B := term_both hG f (d + 1) (d' + 1) hf LC LM (h := 14 - 2 * k) (h' := 13 - 2 * k) (E := 253 - 2 * k) (k := k) (by omega) (by omega) (gX2_readSum f (d + 1)) (gX12_sum f (d' + 1)) A
    have D := sum_both hG f (d + 2) (d' + 2) hf LC LM (h := 15 - 2 * k) (h' := 14 - 2 * k) (E := 253 - 2 * k + 1) (k := k) (by omega) (by omega) (gX2_readSum f (d + 2)) (gX12_sum f (d' + 2)) B
    rw [show 253 - 2 * k + 1 + 1 = 255 - 2 * k by omega] at D
    exact D
