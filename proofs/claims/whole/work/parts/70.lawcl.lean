/-! PURE: clauses of a law's text: lists, frames, tails. -/
theorem EX_ne {b : Bool} {h : Nat} {ops : List Nat} (e : EX b h ops) (hh : h ≤ 31) : ops ≠ [] := by
  intro z
  subst z
  obtain ⟨v, _, _, cr, _⟩ := e.2 (fun _ => 0) (fun _ _ => by omega)
  have go : ∀ I : am_I, I 35 0 = nI 1 → I 31 0 = -nI 22 → (∀ i, i < 6 → I 37 i = nI 0) → I 36 0 = v := fun I h35 h31 h37 => by
    obtain ⟨I', a1, a2, a3, a4⟩ := cr 0 0 1 0 1 0 1 I (fun _ _ => 0) (by omega) h35 (by show 0 + 0 ≤ 1; omega) (by omega) (by omega) h37 trivial
    have l := cs_ans 0 0 0 (l := 0) (len := 1) (pc := 0) (I := I) (fun _ _ => 0) (by omega) h35 (by omega) (by omega) h31 rfl
    have k35 : I' 35 0 = nI 1 := by rw [a4 35 (by omega)]; exact h35
    have k31 : I' 31 0 = -nI 22 := by rw [a4 31 (by omega)]; exact h31
    have r : fX3_worth_b25 0 0 (0 + 1) (nI 0) (31 + 0) (nI 2) (nI 0) (nI 0) I' (fun _ _ => 0) = some (I' 36 1, I', fun _ _ => 0) := by
      simp (disch := omega) only [fX3_worth_b25, fX3_worth_b25w, fX3_worth_b116, zz_lt, li_0, li_1, li_2, li_3, li_4, li_5, li_6, li_7, li_8, li_9, li_10, li_11, li_12, li_15, li_16, li_20, li_21, li_24, li_25, li_26, li_32, li_33, li_38, li_40, li_41, li_42, li_43, li_45, li_47, li_48, li_57, li_58, li_59, li_60, li_61, li_62, li_63, li_74, li_75, li_84, li_91, li_93, li_98, li_100, li_103, li_105, li_107, li_109, li_110, li_111, li_112, li_115, li_118, li_119, li_120, li_121, li_124, li_140, li_180, li_206, li_240, li_255, li_420, li_520, li_999, li_1000, li_1771, li_8240, li_9999, li_88200, li_1000000, li_2097151, li_31, nI_add, pk_mul, zz_sub, zz_an, nI_clamp, zz_leT, zz_leF, zz_ltT, zz_ltF, zz_eqF, zz_eqT, zz_m1, zz_m2, zz_m3, zz_m4, zz_m5, zz_m6, zz_ck, zz_bl, zz_b3, zz_b2, zz_shl, zz_bt0, zz_bt1, pk_div, Nat.zero_add, Nat.add_zero, if_true, if_false, reduceIte, Nat.mul_zero, zz_or0, zz_inT, zz_inF, lj_22, k35, k31, nn_leT]
    have a1' : fX3_worth_b25 0 0 (0 + 1) (nI 0) (31 + 0) (nI 1) (nI 0) (nI 0) I (fun _ _ => 0) = fX3_worth_b25 0 0 (0 + 1) (nI 0) (31 + 0) (nI 2) (nI 0) (nI 0) I' (fun _ _ => 0) := a1
    rw [l, r, a2] at a1'
    simp only [Option.some.injEq, Prod.mk.injEq] at a1'
    exact a1'.1
  have x0 := go (am_up (am_up (fun _ _ => nI 0) 35 0 (nI 1)) 31 0 (-nI 22)) rfl rfl (fun _ _ => rfl)
  have x1 := go (am_up (am_up (am_up (fun _ _ => nI 0) 35 0 (nI 1)) 31 0 (-nI 22)) 36 0 (nI 1)) rfl rfl (fun i _ => rfl)
  rw [up_s rfl, ← x0, am_up_ne (by omega), am_up_ne (by omega)] at x1
  exact absurd x1 (by decide)
theorem CC_k {f f' : Nat → Int32} {c : Nat} (h : ∀ x, x < c → f' x = f x) : ∀ (cl : List (List Nat × List Nat)) (c0 : Nat), c0 + cln cl ≤ c → CC f c0 cl → CC f' c0 cl
  | [], _, _, _ => trivial
  | p :: r, c0, hc, q => by
    have hc' : c0 + ((if p.1 = [] then 0 else p.1.length + 1) + p.2.length + 1 + cln r) ≤ c := hc
    refine ⟨fun z => ?_, fun z => ?_⟩
    · rw [if_pos z] at hc'
      obtain ⟨a1, a2, a3⟩ := q.1 z
      exact ⟨RQ_ext p.2 c0 (fun j _ h2 => h j (by omega)) a1, (h _ (by omega)).trans a2, CC_k h r _ (by omega) a3⟩
    · rw [if_neg z] at hc'
      obtain ⟨a1, a2, a3, a4, a5⟩ := q.2 z
      exact ⟨RQ_ext p.1 c0 (fun j _ h2 => h j (by omega)) a1, (h _ (by omega)).trans a2, RQ_ext p.2 _ (fun j _ h2 => h j (by omega)) a3, (h _ (by omega)).trans a4, CC_k h r _ (by omega) a5⟩
theorem cln_app : ∀ (a b : List (List Nat × List Nat)), cln (a ++ b) = cln a + cln b
  | [], b => (Nat.zero_add _).symm
  | p :: r, b => by
    have ih := cln_app r b
    show (if p.1 = [] then 0 else p.1.length + 1) + p.2.length + 1 + cln (r ++ b) = (if p.1 = [] then 0 else p.1.length + 1) + p.2.length + 1 + cln r + cln b
    omega
theorem mln_app : ∀ (a b : List (List Nat × List Nat)), mln (a ++ b) = mln a + mln b
  | [], b => (Nat.zero_add _).symm
  | p :: r, b => by
    have ih := mln_app r b
    show p.1.length + p.2.length + mln (r ++ b) = p.1.length + p.2.length + mln r + mln b
    omega
theorem WC_app : ∀ (a b : List (List Nat × List Nat)), WC a → WC b → WC (a ++ b)
  | [], _, _, h => h
  | _ :: r, b, h, h2 => ⟨h.1, h.2.1, WC_app r b h.2.2 h2⟩
theorem CC_app {f : Nat → Int32} : ∀ (a b : List (List Nat × List Nat)) (c : Nat), CC f c a → CC f (c + cln a) b → CC f c (a ++ b)
  | [], _, _, _, h => h
  | p :: r, b, c, h, h2 => by
    have h2' : CC f (c + ((if p.1 = [] then 0 else p.1.length + 1) + p.2.length + 1 + cln r)) b := h2
    refine ⟨fun z => ?_, fun z => ?_⟩
    · obtain ⟨a1, a2, a3⟩ := h.1 z
      rw [if_pos z, show c + (0 + p.2.length + 1 + cln r) = c + p.2.length + 1 + cln r by omega] at h2'
      exact ⟨a1, a2, CC_app r b _ a3 h2'⟩
    · obtain ⟨a1, a2, a3, a4, a5⟩ := h.2 z
      rw [if_neg z, show c + (p.1.length + 1 + p.2.length + 1 + cln r) = c + p.1.length + 1 + p.2.length + 1 + cln r by omega] at h2'
      exact ⟨a1, a2, a3, a4, CC_app r b _ a5 h2'⟩
theorem MC_app {J : am_I} {s : Nat} : ∀ (a b : List (List Nat × List Nat)) (m j : Nat), MC J s m j a → MC J s (m + mln a) (j + a.length) b → MC J s m j (a ++ b)
  | [], _, _, _, _, h => h
  | p :: r, b, m, j, h, h2 => by
    have h2' : MC J s (m + (p.1.length + p.2.length + mln r)) (j + (r.length + 1)) b := h2
    rw [show m + (p.1.length + p.2.length + mln r) = m + p.1.length + p.2.length + mln r by omega, show j + (r.length + 1) = j + 1 + r.length by omega] at h2'
    obtain ⟨a1, a2, a3, a4, a5, a6, a7, a8⟩ := h
    exact ⟨a1, a2, a3, a4, a5, a6, a7, MC_app r b _ _ a8 h2'⟩
/-- the model's frame over clauses -/
def FK (s m j : Nat) (J J' : am_I) : Prop := (∀ k, k ≠ 0 → (k < 2 ∨ 8 < k) → J' k = J k) ∧ (∀ i, i ≠ 3 → i ≠ 4 → i ≠ 5 → J' 0 i = J 0 i) ∧ (∀ x, x < 520 * s + m → J' 2 x = J 2 x) ∧ (∀ x, x < 520 * s + m → J' 3 x = J 3 x) ∧ (∀ x, x ≠ s → J' 4 x = J 4 x) ∧ (∀ x, x ≠ s → J' 5 x = J 5 x) ∧ (∀ k x, 6 ≤ k → k ≤ 8 → x < 140 * s + j → J' k x = J k x)
theorem FK_FM {s m : Nat} (j : Nat) {J J' : am_I} (h : FM s m J J') : FK s m j J J' := ⟨fun k a b => h.1 k a (by omega) (by omega) (by omega), h.2.1, h.2.2.1, h.2.2.2.1, h.2.2.2.2, fun x _ => by rw [h.1 5 (by omega) (by omega) (by omega) (by omega)], fun k x a b _ => by rw [h.1 k (by omega) (by omega) (by omega) (by omega)]⟩
theorem FK_tr {s m j m' j' : Nat} {J J' J2 : am_I} (h : FK s m j J J') (h2 : FK s m' j' J' J2) (hm : m ≤ m') (hj : j ≤ j') : FK s m j J J2 := ⟨fun k a b => (h2.1 k a b).trans (h.1 k a b), fun i a b c => (h2.2.1 i a b c).trans (h.2.1 i a b c), fun x hx => (h2.2.2.1 x (by omega)).trans (h.2.2.1 x hx), fun x hx => (h2.2.2.2.1 x (by omega)).trans (h.2.2.2.1 x hx), fun x hx => (h2.2.2.2.2.1 x hx).trans (h.2.2.2.2.1 x hx), fun x hx => (h2.2.2.2.2.2.1 x hx).trans (h.2.2.2.2.2.1 x hx), fun k x a b hx => (h2.2.2.2.2.2.2 k x a b (by omega)).trans (h.2.2.2.2.2.2 k x a b hx)⟩
theorem FK_rf (s m j : Nat) (J : am_I) : FK s m j J J := FK_FM j (FM_rf s m J)
theorem FK_up (s m j : Nat) (J : am_I) {k x : Nat} (v : Int32) (hk : 6 ≤ k ∧ k ≤ 8) (hx : 140 * s + j ≤ x) : FK s m j J (am_up J k x v) := ⟨fun i a b => am_up_ne (by omega), fun i _ _ _ => by rw [am_up_ne (by omega)], fun x _ => by rw [am_up_ne (by omega)], fun x _ => by rw [am_up_ne (by omega)], fun x _ => by rw [am_up_ne (by omega)], fun x _ => by rw [am_up_ne (by omega)], fun k' x' _ _ h => by
  by_cases e : k' = k
  · subst e; exact up_n (by omega)
  · rw [am_up_ne e]⟩
theorem FK_5 (s m j : Nat) (J : am_I) (v : Int32) : FK s m j J (am_up J 5 s v) := ⟨fun i a b => am_up_ne (by omega), fun i _ _ _ => by rw [am_up_ne (by omega)], fun x _ => by rw [am_up_ne (by omega)], fun x _ => by rw [am_up_ne (by omega)], fun x _ => by rw [am_up_ne (by omega)], fun x hx => up_n hx, fun k x _ _ _ => by rw [am_up_ne (by omega)]⟩
theorem MC_k {s m j : Nat} {J J' : am_I} (h : FK s m j J J') : ∀ (cl : List (List Nat × List Nat)) (m0 j0 : Nat), m0 + mln cl ≤ m → j0 + cl.length ≤ j → MC J s m0 j0 cl → MC J' s m0 j0 cl
  | [], _, _, _, _, _ => trivial
  | p :: r, m0, j0, hm, hj, q => by
    have hm' : m0 + (p.1.length + p.2.length + mln r) ≤ m := hm
    have hj' : j0 + (r.length + 1) ≤ j := hj
    obtain ⟨a1, a2, a3, a4, a5, a6, a7, a8⟩ := q
    refine ⟨(h.2.2.2.2.2.2 6 _ (by omega) (by omega) (by omega)).trans a1, (h.2.2.2.2.2.2 7 _ (by omega) (by omega) (by omega)).trans a2, (h.2.2.2.2.2.2 8 _ (by omega) (by omega) (by omega)).trans a3, RQ_ext p.1 _ (fun x _ h2 => h.2.2.1 x (by omega)) a4, RQ_ext p.1 _ (fun x _ h2 => h.2.2.2.1 x (by omega)) a5, RQ_ext p.2 _ (fun x _ h2 => h.2.2.1 x (by omega)) a6, RQ_ext p.2 _ (fun x _ h2 => h.2.2.2.1 x (by omega)) a7, MC_k h r _ _ (by omega) (by omega) a8⟩
theorem lc_putX (f d : Nat) (L : am_L) (I : am_I) (x : Int32) : ∃ I', fX2_put f d x I L = some (I', L) ∧ (∀ k, k ≠ 27 → k ≠ 28 → I' k = I k) ∧ I' 27 3 = I 27 3 := by
  unfold fX2_put
  by_cases c1 : I 27 2 < 0
  · rw [if_pos c1]; exact ⟨I, rfl, fun _ _ _ => rfl, rfl⟩
  · rw [if_neg c1]
    by_cases c2 : (240 : Int32) ≤ I 27 2
    · rw [if_pos c2]; exact ⟨I, rfl, fun _ _ _ => rfl, rfl⟩
    · rw [if_neg c2]
      have d1 : 0 ≤ (I 27 2).toInt ∧ (I 27 2).toInt < (240 : Nat) := by
        rw [Int32.lt_iff_toInt_lt] at c1
        rw [Int32.le_iff_toInt_le] at c2
        have e0 : (0 : Int32).toInt = 0 := rfl
        have e1 : (240 : Int32).toInt = 240 := rfl
        omega
      unfold am_ck
      rw [if_pos d1, zz_lt, zz_lt]
      refine ⟨_, rfl, fun k a b => ?_, ?_⟩
      · rw [am_up_ne a, am_up_ne b]
      · rw [up_n (by omega), am_up_ne (by omega)]
def CEr (s j m : Nat) (I J I' J' : am_I) : Prop := ∃ e, e ≤ 240 ∧ I' 27 3 = nI e ∧ J' 0 4 = nI e ∧ (∀ k, k ≠ 27 → k ≠ 28 → I' k = I k) ∧ FK s m j J J'
def COk (n : Nat) (t : Nat → Nat) (s j pp c m : Nat) (I J I' J' : am_I) : Prop := ∃ (x : List Nat × List Nat) (p' a' : Nat), WC [x] ∧ PC n t I' p' (c + cln [x]) ∧ PM n t J' a' (-nI 1) 0 s (m + mln [x]) ∧ nb n t a' = p' ∧ a' ≤ n ∧ pp + cln [x] ≤ p' ∧ CC (I' 28) c [x] ∧ MC J' s m j [x] ∧ J' 5 s = nI (j + 1) ∧ FC c I I' ∧ FK s m j J J'
def RES (n : Nat) (t : Nat → Nat) (LC LM : am_L) (s j pp c m : Nat) (I J : am_I) (rc : Option (Int32 × am_I × am_L)) (rm : Option (am_I × am_L)) : Prop := ∃ I' J', (rc = some (nI 1, I', LC) ∧ rm = some (J', LM) ∧ COk n t s j pp c m I J I' J') ∨ (rc = some (nI 0, I', LC) ∧ rm = some (J', LM) ∧ CEr s j m I J I' J')
theorem RES_b {n : Nat} {t : Nat → Nat} {LC LM : am_L} {s j pp c m : Nat} {I J I0 J0 : am_I} {rc : Option (Int32 × am_I × am_L)} {rm : Option (am_I × am_L)} (fI : FC c I I0) (fJ : FK s m j J J0) (h : RES n t LC LM s j pp c m I0 J0 rc rm) : RES n t LC LM s j pp c m I J rc rm := by
  obtain ⟨I', J', h | h⟩ := h
  · obtain ⟨r1, r2, x, p', a', x1, x2, x3, x4, x5, x6, x7, x8, x9, x10, x11⟩ := h
    exact ⟨I', J', Or.inl ⟨r1, r2, x, p', a', x1, x2, x3, x4, x5, x6, x7, x8, x9, FC_tr fI x10 (Nat.le_refl _), FK_tr fJ x11 (Nat.le_refl _) (Nat.le_refl _)⟩⟩
  · obtain ⟨r1, r2, e, x1, x2, x3, x4, x5⟩ := h
    exact ⟨I', J', Or.inr ⟨r1, r2, e, x1, x2, x3, fun k a b => (x4 k a b).trans (fI.1 k a b), FK_tr fJ x5 (Nat.le_refl _) (Nat.le_refl _)⟩⟩
section
variable {n : Nat} {t : Nat → Nat} {I J I0 J0 : am_I} {s j m c p0 pp : Nat}
theorem b251 (f d : Nat) (L : am_L) {m' : Nat} (h14 : J 0 14 = nI s) (h4 : J 4 s = nI m') (h5 : J 5 s = nI j) (hs : s ≤ 4) (hj : j < 140) : fX12_clause_b251 f d (nI (140 * s + j)) J L = some (am_up (am_up J 8 (140 * s + j) (nI m')) 5 s (nI (j + 1)), L) := by
  have e1 : (am_up J 8 (140 * s + j) (nI m')) 0 14 = nI s := by rw [am_up_ne (by omega)]; exact h14
  have e2 : (am_up J 8 (140 * s + j) (nI m')) 5 s = nI j := by rw [am_up_ne (by omega)]; exact h5
  simp (disch := omega) only [fX12_clause_b251, zz_lt, li_0, li_1, li_2, li_3, li_4, li_5, li_6, li_7, li_8, li_9, li_10, li_11, li_12, li_15, li_16, li_20, li_21, li_24, li_25, li_26, li_32, li_33, li_38, li_40, li_41, li_42, li_43, li_45, li_47, li_48, li_57, li_58, li_59, li_60, li_61, li_62, li_63, li_74, li_75, li_84, li_91, li_93, li_98, li_100, li_103, li_105, li_107, li_109, li_110, li_111, li_112, li_115, li_118, li_119, li_120, li_121, li_124, li_140, li_180, li_206, li_240, li_255, li_420, li_520, li_999, li_1000, li_1771, li_8240, li_9999, li_88200, li_1000000, li_2097151, li_31, nI_add, pk_mul, zz_sub, zz_an, nI_clamp, zz_leT, zz_leF, zz_ltT, zz_ltF, zz_eqF, zz_eqT, zz_m1, zz_m2, zz_m3, zz_m4, zz_m5, zz_m6, zz_ck, zz_bl, zz_b3, zz_b2, zz_shl, zz_bt0, zz_bt1, pk_div, Nat.zero_add, Nat.add_zero, if_true, if_false, reduceIte, Nat.mul_zero, zz_or0, zz_inT, zz_inF, h14, h4, e1, e2]
theorem FK_251 (J : am_I) (v w : Int32) : FK s m j J (am_up (am_up J 8 (140 * s + j) v) 5 s w) := FK_tr (FK_up s m j J v (by omega) (Nat.le_refl _)) (FK_5 s m j _ w) (Nat.le_refl _) (Nat.le_refl _)
theorem MF_K {J J' : am_I} {s m E e j : Nat} (h : MF J s m E e) (h4 : J' 0 4 = J 0 4) (h14 : J' 0 14 = J 0 14) (h44 : J' 4 s = J 4 s) : MF J' s m E e := ⟨h4.trans h.1, h.2.1, h14.trans h.2.2.1, by
  obtain ⟨x, a, b, q⟩ := h.2.2.2
  exact ⟨x, a, b, h44.trans q⟩⟩
theorem up0 {J : am_I} {k x i : Nat} {v : Int32} (h : k ≠ 0) : (am_up J k x v) 0 i = J 0 i := by rw [am_up_ne (by omega)]
theorem up4 {J : am_I} {k x i : Nat} {v : Int32} (h : k ≠ 4) : (am_up J k x v) 4 i = J 4 i := by rw [am_up_ne (by omega)]
theorem up5 {J : am_I} {k x i : Nat} {v : Int32} (h : k ≠ 5) : (am_up J k x v) 5 i = J 5 i := by rw [am_up_ne (by omega)]
/-- behind a fault: what both still do -/
theorem b251_err (f d : Nat) (L : am_L) {E e : Nat} (h : MF J s m E e) (h5 : J 5 s = nI j) (hs : s ≤ 4) (hj : j < 140) : ∃ J', fX12_clause_b251 f d (nI (140 * s + j)) J L = some (J', L) ∧ J' 0 4 = nI e ∧ FK s m j J J' := by
  obtain ⟨m', _, _, h4⟩ := h.2.2.2
  refine ⟨_, b251 f d L h.2.2.1 h4 h5 hs hj, ?_, FK_251 J _ _⟩
  rw [up0 (by omega), up0 (by omega)]; exact h.1
theorem b184_err (f d : Nat) (L : am_L) {E e : Nat} (a : Nat) (ha : a ≤ 1) (h : MF J s m E e) (h5 : J 5 s = nI j) (hs : s ≤ 4) (hj : j < 140) : ∃ J', fX12_clause_b184 f d (nI (140 * s + j)) (nI a) J L = some (J', L) ∧ J' 0 4 = nI e ∧ FK s m j J J' := by
  have h' : MF (am_up J 7 (140 * s + j) (J 6 (140 * s + j))) s m E e := MF_K (j := j) h (up0 (by omega)) (up0 (by omega)) (up4 (by omega))
  obtain ⟨J', x1, x2, x3⟩ := b251_err f d L h' (by rw [up5 (by omega)]; exact h5) hs hj
  have n4 := mf_n1 h'
  refine ⟨J', ?_, x2, FK_tr (FK_up s m j J _ (by omega) (Nat.le_refl _)) x3 (Nat.le_refl _) (Nat.le_refl _)⟩
  by_cases a0 : a = 0
  · subst a0
    simp (disch := omega) only [fX12_clause_b184, zz_lt, li_0, li_1, li_2, li_3, li_4, li_5, li_6, li_7, li_8, li_9, li_10, li_11, li_12, li_15, li_16, li_20, li_21, li_24, li_25, li_26, li_32, li_33, li_38, li_40, li_41, li_42, li_43, li_45, li_47, li_48, li_57, li_58, li_59, li_60, li_61, li_62, li_63, li_74, li_75, li_84, li_91, li_93, li_98, li_100, li_103, li_105, li_107, li_109, li_110, li_111, li_112, li_115, li_118, li_119, li_120, li_121, li_124, li_140, li_180, li_206, li_240, li_255, li_420, li_520, li_999, li_1000, li_1771, li_8240, li_9999, li_88200, li_1000000, li_2097151, li_31, nI_add, pk_mul, zz_sub, zz_an, nI_clamp, zz_leT, zz_leF, zz_ltT, zz_ltF, zz_eqF, zz_eqT, zz_m1, zz_m2, zz_m3, zz_m4, zz_m5, zz_m6, zz_ck, zz_bl, zz_b3, zz_b2, zz_shl, zz_bt0, zz_bt1, pk_div, Nat.zero_add, Nat.add_zero, if_true, if_false, reduceIte, Nat.mul_zero, zz_or0, zz_inT, zz_inF, x1]
  · simp (disch := omega) only [fX12_clause_b184, zz_lt, li_0, li_1, li_2, li_3, li_4, li_5, li_6, li_7, li_8, li_9, li_10, li_11, li_12, li_15, li_16, li_20, li_21, li_24, li_25, li_26, li_32, li_33, li_38, li_40, li_41, li_42, li_43, li_45, li_47, li_48, li_57, li_58, li_59, li_60, li_61, li_62, li_63, li_74, li_75, li_84, li_91, li_93, li_98, li_100, li_103, li_105, li_107, li_109, li_110, li_111, li_112, li_115, li_118, li_119, li_120, li_121, li_124, li_140, li_180, li_206, li_240, li_255, li_420, li_520, li_999, li_1000, li_1771, li_8240, li_9999, li_88200, li_1000000, li_2097151, li_31, nI_add, pk_mul, zz_sub, zz_an, nI_clamp, zz_leT, zz_leF, zz_ltT, zz_ltF, zz_eqF, zz_eqT, zz_m1, zz_m2, zz_m3, zz_m4, zz_m5, zz_m6, zz_ck, zz_bl, zz_b3, zz_b2, zz_shl, zz_bt0, zz_bt1, pk_div, Nat.zero_add, Nat.add_zero, if_true, if_false, reduceIte, Nat.mul_zero, zz_or0, zz_inT, zz_inF, n4, x1]
theorem b138_err (f d : Nat) (L : am_L) (I : am_I) : ∃ I', fX2_readClause_b138 f d (nI 0) I L = some (nI 0, I', L) ∧ (∀ k, k ≠ 27 → k ≠ 28 → I' k = I k) ∧ I' 27 3 = I 27 3 := by
  obtain ⟨I', a1, a2, a3⟩ := lc_putX f d L I (-nI 22)
  refine ⟨I', ?_, a2, a3⟩
  simp (disch := omega) only [fX2_readClause_b138, lj_22, zz_lt, li_0, li_1, li_2, li_3, li_4, li_5, li_6, li_7, li_8, li_9, li_10, li_11, li_12, li_15, li_16, li_20, li_21, li_24, li_25, li_26, li_32, li_33, li_38, li_40, li_41, li_42, li_43, li_45, li_47, li_48, li_57, li_58, li_59, li_60, li_61, li_62, li_63, li_74, li_75, li_84, li_91, li_93, li_98, li_100, li_103, li_105, li_107, li_109, li_110, li_111, li_112, li_115, li_118, li_119, li_120, li_121, li_124, li_140, li_180, li_206, li_240, li_255, li_420, li_520, li_999, li_1000, li_1771, li_8240, li_9999, li_88200, li_1000000, li_2097151, li_31, nI_add, pk_mul, zz_sub, zz_an, nI_clamp, zz_leT, zz_leF, zz_ltT, zz_ltF, zz_eqF, zz_eqT, zz_m1, zz_m2, zz_m3, zz_m4, zz_m5, zz_m6, zz_ck, zz_bl, zz_b3, zz_b2, zz_shl, zz_bt0, zz_bt1, pk_div, Nat.zero_add, Nat.add_zero, if_true, if_false, reduceIte, Nat.mul_zero, zz_or0, zz_inT, zz_inF, a1]
theorem err_both (f dC dM : Nat) (LC LM : am_L) {E : Nat} (a2 : Int32) (a : Nat) (ha : a ≤ 1) (h : ERx s c m E I0 J0 I J) (h5 : J0 5 s = nI j) (hs : s ≤ 4) (hj : j < 140) : RES n t LC LM s j pp c m I0 J0 (fX2_readClause_b125 f dC a2 (nI 0) I LC) (fX12_clause_b184 f dM (nI (140 * s + j)) (nI a) J LM) := by
  obtain ⟨e, z1, z2, z3, z4⟩ := h
  obtain ⟨I', x1, x2, x3⟩ := b138_err f dC LC I
  obtain ⟨J', y1, y2, y3⟩ := b184_err f dM LM a ha z2 (by rw [z4.1 5 (by omega) (by omega) (by omega) (by omega)]; exact h5) hs hj
  refine ⟨I', J', Or.inr ⟨?_, y1, e, z2.2.1, x3.trans z1, y2, fun k a b => (x2 k a b).trans (z3.1 k a b), FK_tr (FK_FM j z4) y3 (Nat.le_refl _) (Nat.le_refl _)⟩⟩
  simp (disch := omega) only [fX2_readClause_b125, zz_lt, li_0, li_1, li_2, li_3, li_4, li_5, li_6, li_7, li_8, li_9, li_10, li_11, li_12, li_15, li_16, li_20, li_21, li_24, li_25, li_26, li_32, li_33, li_38, li_40, li_41, li_42, li_43, li_45, li_47, li_48, li_57, li_58, li_59, li_60, li_61, li_62, li_63, li_74, li_75, li_84, li_91, li_93, li_98, li_100, li_103, li_105, li_107, li_109, li_110, li_111, li_112, li_115, li_118, li_119, li_120, li_121, li_124, li_140, li_180, li_206, li_240, li_255, li_420, li_520, li_999, li_1000, li_1771, li_8240, li_9999, li_88200, li_1000000, li_2097151, li_31, nI_add, pk_mul, zz_sub, zz_an, nI_clamp, zz_leT, zz_leF, zz_ltT, zz_ltF, zz_eqF, zz_eqT, zz_m1, zz_m2, zz_m3, zz_m4, zz_m5, zz_m6, zz_ck, zz_bl, zz_b3, zz_b2, zz_shl, zz_bt0, zz_bt1, pk_div, Nat.zero_add, Nat.add_zero, if_true, if_false, reduceIte, Nat.mul_zero, zz_or0, zz_inT, zz_inF, x1]
/-- a clause without a condition -/
theorem pln_both (hG : GT n t) (f dC dM : Nat) (LC LM : am_L) {A : List Nat} {p a : Nat} (w : OKw n t false 15 0 s p0 c m I0 J0 I J A p a) (h6 : J0 6 (140 * s + j) = nI m) (h5 : J0 5 s = nI j) (hs : s ≤ 4) (hj : j < 140) (hc : c + 1 ≤ p0) (hpp : pp + 1 ≤ p0) : RES n t LC LM s j pp c m I0 J0 (fX2_readClause_b125 f dC (nI 0) (nI 1) I LC) (fX12_clause_b184 f dM (nI (140 * s + j)) (nI 0) J LM) := by
  have g := hG.1
  obtain ⟨e1, e2, e3, e4, e5, e6, e7, e8, e9, e10, e11⟩ := w
  have pn : p ≤ n := by rw [← e4]; exact nb_le e5
  have j6 : J 6 (140 * s + j) = nI m := by rw [e11.1 6 (by omega) (by omega) (by omega) (by omega)]; exact h6
  have j5 : J 5 s = nI j := by rw [e11.1 5 (by omega) (by omega) (by omega) (by omega)]; exact h5
  have pc := lc_put f dC LC e2 (by omega) (-nI 22)
  have pP := PC_put e2 (-nI 22)
  have fp := FC_put I (c + A.length) (-nI 22) (nI (c + A.length + 1))
  have v22 : (am_up (am_up I 28 (c + A.length) (-nI 22)) 27 2 (nI (c + A.length + 1))) 28 (c + A.length) = -nI 22 := by rw [am_up_ne (by omega), up_s rfl]
  obtain ⟨I', hI'⟩ : ∃ I', I' = am_up (am_up I 28 (c + A.length) (-nI 22)) 27 2 (nI (c + A.length + 1)) := ⟨_, rfl⟩
  rw [← hI'] at pc pP fp v22
  have q1 : (am_up J 7 (140 * s + j) (nI m)) 0 14 = nI s := by rw [up0 (by omega)]; exact e3.2.2.2.2.1
  have q2 : (am_up J 7 (140 * s + j) (nI m)) 4 s = nI (m + A.length) := by rw [up4 (by omega)]; exact e3.2.2.2.2.2
  have q3 : (am_up J 7 (140 * s + j) (nI m)) 5 s = nI j := by rw [up5 (by omega)]; exact j5
  have bb := b251 f dM LM q1 q2 q3 hs hj
  have fk : FK s m j J (am_up (am_up (am_up J 7 (140 * s + j) (nI m)) 8 (140 * s + j) (nI (m + A.length))) 5 s (nI (j + 1))) := FK_tr (FK_up s m j J _ (by omega) (Nat.le_refl _)) (FK_251 _ _ _) (Nat.le_refl _) (Nat.le_refl _)
  have r6 : (am_up (am_up (am_up J 7 (140 * s + j) (nI m)) 8 (140 * s + j) (nI (m + A.length))) 5 s (nI (j + 1))) 6 (140 * s + j) = nI m := by rw [am_up_ne (by omega), am_up_ne (by omega), am_up_ne (by omega)]; exact j6
  have r7 : (am_up (am_up (am_up J 7 (140 * s + j) (nI m)) 8 (140 * s + j) (nI (m + A.length))) 5 s (nI (j + 1))) 7 (140 * s + j) = nI m := by rw [am_up_ne (by omega), am_up_ne (by omega), up_s rfl]
  have r8 : (am_up (am_up (am_up J 7 (140 * s + j) (nI m)) 8 (140 * s + j) (nI (m + A.length))) 5 s (nI (j + 1))) 8 (140 * s + j) = nI (m + A.length) := by rw [am_up_ne (by omega), up_s rfl]
  have r5 : (am_up (am_up (am_up J 7 (140 * s + j) (nI m)) 8 (140 * s + j) (nI (m + A.length))) 5 s (nI (j + 1))) 5 s = nI (j + 1) := up_s rfl
  have r2 : (am_up (am_up (am_up J 7 (140 * s + j) (nI m)) 8 (140 * s + j) (nI (m + A.length))) 5 s (nI (j + 1))) 2 = J 2 := by rw [am_up_ne (by omega), am_up_ne (by omega), am_up_ne (by omega)]
  have r3 : (am_up (am_up (am_up J 7 (140 * s + j) (nI m)) 8 (140 * s + j) (nI (m + A.length))) 5 s (nI (j + 1))) 3 = J 3 := by rw [am_up_ne (by omega), am_up_ne (by omega), am_up_ne (by omega)]
  have rP : PM n t (am_up (am_up (am_up J 7 (140 * s + j) (nI m)) 8 (140 * s + j) (nI (m + A.length))) 5 s (nI (j + 1))) a (-nI 1) 0 s (m + A.length) := ⟨TM_k e3.1 (by rw [up0 (by omega), up0 (by omega), up0 (by omega)]) (by rw [am_up_ne (by omega), am_up_ne (by omega), am_up_ne (by omega)]), by rw [up0 (by omega), up0 (by omega), up0 (by omega)]; exact e3.2.1, by rw [up0 (by omega), up0 (by omega), up0 (by omega)]; exact e3.2.2.1, by rw [up0 (by omega), up0 (by omega), up0 (by omega)]; exact e3.2.2.2.1, by rw [up0 (by omega), up0 (by omega), up0 (by omega)]; exact e3.2.2.2.2.1, by rw [up4 (by omega), up4 (by omega), up4 (by omega)]; exact e3.2.2.2.2.2⟩
  have b184 : fX12_clause_b184 f dM (nI (140 * s + j)) (nI 0) J LM = some (am_up (am_up (am_up J 7 (140 * s + j) (nI m)) 8 (140 * s + j) (nI (m + A.length))) 5 s (nI (j + 1)), LM) := by
    simp (disch := omega) only [fX12_clause_b184, zz_lt, li_0, li_1, li_2, li_3, li_4, li_5, li_6, li_7, li_8, li_9, li_10, li_11, li_12, li_15, li_16, li_20, li_21, li_24, li_25, li_26, li_32, li_33, li_38, li_40, li_41, li_42, li_43, li_45, li_47, li_48, li_57, li_58, li_59, li_60, li_61, li_62, li_63, li_74, li_75, li_84, li_91, li_93, li_98, li_100, li_103, li_105, li_107, li_109, li_110, li_111, li_112, li_115, li_118, li_119, li_120, li_121, li_124, li_140, li_180, li_206, li_240, li_255, li_420, li_520, li_999, li_1000, li_1771, li_8240, li_9999, li_88200, li_1000000, li_2097151, li_31, nI_add, pk_mul, zz_sub, zz_an, nI_clamp, zz_leT, zz_leF, zz_ltT, zz_ltF, zz_eqF, zz_eqT, zz_m1, zz_m2, zz_m3, zz_m4, zz_m5, zz_m6, zz_ck, zz_bl, zz_b3, zz_b2, zz_shl, zz_bt0, zz_bt1, pk_div, Nat.zero_add, Nat.add_zero, if_true, if_false, reduceIte, Nat.mul_zero, zz_or0, zz_inT, zz_inF, j6, bb]
  obtain ⟨J', hJ'⟩ : ∃ J', J' = am_up (am_up (am_up J 7 (140 * s + j) (nI m)) 8 (140 * s + j) (nI (m + A.length))) 5 s (nI (j + 1)) := ⟨_, rfl⟩
  rw [← hJ'] at b184 fk r6 r7 r8 r5 r2 r3 rP
  have cl1 : cln [(([] : List Nat), A)] = A.length + 1 := by show (if ([] : List Nat) = [] then 0 else 0 + 1) + A.length + 1 + 0 = _; rw [if_pos rfl]; omega
  have ml1 : mln [(([] : List Nat), A)] = A.length := by show 0 + A.length + 0 = _; omega
  refine ⟨I', J', Or.inl ⟨?_, b184, ([], A), p, a, ⟨fun z => absurd rfl z, ⟨false, EX_up e1 (by omega)⟩, trivial⟩, ?_, ?_, e4, e5, ?_, ⟨fun _ => ⟨RQ_ext A c (fun x _ h2 => fp.2 x h2) e7, v22, trivial⟩, fun z => absurd rfl z⟩, ⟨r6, r7, ?_, trivial, trivial, ?_, ?_, trivial⟩, r5, FC_tr e10 fp (by omega), FK_tr (FK_FM j e11) fk (Nat.le_refl _) (Nat.le_refl _)⟩⟩
  · simp (disch := omega) only [fX2_readClause_b125, fX2_readClause_b138, lj_22, zz_lt, li_0, li_1, li_2, li_3, li_4, li_5, li_6, li_7, li_8, li_9, li_10, li_11, li_12, li_15, li_16, li_20, li_21, li_24, li_25, li_26, li_32, li_33, li_38, li_40, li_41, li_42, li_43, li_45, li_47, li_48, li_57, li_58, li_59, li_60, li_61, li_62, li_63, li_74, li_75, li_84, li_91, li_93, li_98, li_100, li_103, li_105, li_107, li_109, li_110, li_111, li_112, li_115, li_118, li_119, li_120, li_121, li_124, li_140, li_180, li_206, li_240, li_255, li_420, li_520, li_999, li_1000, li_1771, li_8240, li_9999, li_88200, li_1000000, li_2097151, li_31, nI_add, pk_mul, zz_sub, zz_an, nI_clamp, zz_leT, zz_leF, zz_ltT, zz_ltF, zz_eqF, zz_eqT, zz_m1, zz_m2, zz_m3, zz_m4, zz_m5, zz_m6, zz_ck, zz_bl, zz_b3, zz_b2, zz_shl, zz_bt0, zz_bt1, pk_div, Nat.zero_add, Nat.add_zero, if_true, if_false, reduceIte, Nat.mul_zero, zz_or0, zz_inT, zz_inF, pc]
  · rw [cl1]; exact pP
  · rw [ml1]; exact rP
  · rw [cl1]; omega
  · exact r8
  · show RQ (J' 2) mk (520 * s + (m + 0)) A
    rw [r2]; exact e8
  · show RQ (J' 3) mv (520 * s + (m + 0)) A
    rw [r3]; exact e9
end
