/-! PURE: an expression's code worked out on both sides. -/
def RQ (f w : Nat → Int32) : Nat → List Nat → Prop
  | _, [] => True
  | c, x :: xs => f c = w x ∧ RQ f w (c + 1) xs
theorem RQ_app {f w : Nat → Int32} : ∀ (a : List Nat) (c : Nat) (b : List Nat), RQ f w c (a ++ b) ↔ RQ f w c a ∧ RQ f w (c + a.length) b
  | [], c, b => ⟨fun h => ⟨trivial, h⟩, fun h => h.2⟩
  | x :: xs, c, b => by
    have ih := RQ_app (f := f) (w := w) xs (c + 1) b
    show (f c = w x ∧ RQ f w (c + 1) (xs ++ b)) ↔ ((f c = w x ∧ RQ f w (c + 1) xs) ∧ RQ f w (c + (xs.length + 1)) b)
    rw [ih, show c + (xs.length + 1) = c + 1 + xs.length by omega]
    exact ⟨fun h => ⟨⟨h.1, h.2.1⟩, h.2.2⟩, fun h => ⟨h.1.1, h.1.2, h.2⟩⟩
theorem RQ_ext {f f' w : Nat → Int32} : ∀ (a : List Nat) (c : Nat), (∀ j, c ≤ j → j < c + a.length → f' j = f j) → RQ f w c a → RQ f' w c a
  | [], _, _, _ => trivial
  | x :: xs, c, h, r => ⟨(h c (Nat.le_refl _) (by show c < c + (xs.length + 1); omega)).trans r.1, RQ_ext xs (c + 1) (fun j h1 h2 => h j (by omega) (by show j < c + (xs.length + 1); omega)) r.2⟩
def CRun (y : Nat → Nat) (h : Nat) (ops : List Nat) (v : Int32) : Prop := ∀ (n d F l len pc sp : Nat) (I : am_I) (L : am_L), l < 4 → I 35 l = nI len → pc + ops.length ≤ len → len ≤ 240 → sp + h ≤ 32 → (∀ i, i < 6 → I 37 i = nI (y i)) → RQ (I (31 + l)) cw pc ops → ∃ I', fX3_worth_b25 n d (F + ops.length) (nI l) (31 + l) (nI sp) (nI 0) (nI pc) I L = fX3_worth_b25 n d F (nI l) (31 + l) (nI (sp + 1)) (nI 0) (nI (pc + ops.length)) I' L ∧ I' 36 sp = v ∧ (∀ j, j < sp → I' 36 j = I 36 j) ∧ (∀ k, k ≠ 36 → I' k = I k)
def MRun (y : Nat → Nat) (h : Nat) (ops : List Nat) (v : Int32) : Prop := ∀ (n d F s e pc sp : Nat) (I : am_I) (L : am_L), s < 5 → pc + ops.length ≤ 520 * s + e → e ≤ 520 → sp + h ≤ 32 → (∀ i, i < 6 → I 9 i = nI (y i)) → RQ (I 2) mk pc ops → RQ (I 3) mv pc ops → ∃ I', fX12_workOut_b12 n d (F + ops.length) (nI s) (nI e) (nI sp) (nI pc) I L = fX12_workOut_b12 n d F (nI s) (nI e) (nI (sp + 1)) (nI (pc + ops.length)) I' L ∧ I' 10 sp = v ∧ (∀ j, j < sp → I' 10 j = I 10 j) ∧ (∀ k, k ≠ 10 → I' k = I k)
/-- an expression: both sides work out the same -/
def EX (b : Bool) (h : Nat) (ops : List Nat) : Prop := 1 ≤ h ∧ ∀ y : Nat → Nat, (∀ i, i < 6 → y i ≤ 9999) → ∃ v : Int32, BV v ∧ (b = true → v = nI 0 ∨ v = nI 1) ∧ CRun y h ops v ∧ MRun y h ops v
theorem BV_n {a : Nat} (h : a ≤ 9999) : BV (nI a) := by
  unfold BV
  rw [nI_toInt (by omega)]
  omega
theorem EX_num {v : Nat} (hv : v < 10000) : EX false 1 [v] := by
  refine ⟨Nat.le_refl _, fun y hy => ⟨nI v, BV_n (by omega), fun z => Bool.noConfusion z, ?_, ?_⟩⟩
  · intro n d F l len pc sp I L hl h35 hp hlen hs h37 hr
    have hp' : pc < len := by have : pc + 1 ≤ len := hp; omega
    exact ⟨am_up I 36 sp (nI v), cs_push n d F L hl h35 hp' hlen (by omega) (Or.inl ⟨hv, rfl⟩) hr.1, up_s rfl, fun j hj => up_n (by omega), fun k hk => am_up_ne hk⟩
  · intro n d F s e pc sp I L hs5 hp he hs h9 hk hr
    have hp' : pc < 520 * s + e := by have : pc + 1 ≤ 520 * s + e := hp; omega
    exact ⟨am_up I 10 sp (nI v), ms_push n d F L hs5 hp' he (by omega) (Or.inl ⟨hv, rfl⟩) hk.1 hr.1, up_s rfl, fun j hj => up_n (by omega), fun k hk => am_up_ne hk⟩
theorem EX_let {k : Nat} (hk6 : k < 6) : EX false 1 [10000 + k] := by
  refine ⟨Nat.le_refl _, fun y hy => ⟨nI (y k), BV_n (hy k hk6), fun z => Bool.noConfusion z, ?_, ?_⟩⟩
  · intro n d F l len pc sp I L hl h35 hp hlen hs h37 hr
    have hp' : pc < len := by have : pc + 1 ≤ len := hp; omega
    exact ⟨am_up I 36 sp (nI (y k)), cs_push n d F L hl h35 hp' hlen (by omega) (Or.inr ⟨k, hk6, rfl, h37 k hk6⟩) hr.1, up_s rfl, fun j hj => up_n (by omega), fun k hk => am_up_ne hk⟩
  · intro n d F s e pc sp I L hs5 hp he hs h9 hk hr
    have hp' : pc < 520 * s + e := by have : pc + 1 ≤ 520 * s + e := hp; omega
    exact ⟨am_up I 10 sp (nI (y k)), ms_push n d F L hs5 hp' he (by omega) (Or.inr ⟨k, hk6, rfl, h9 k hk6⟩) hk.1 hr.1, up_s rfl, fun j hj => up_n (by omega), fun k hk => am_up_ne hk⟩
theorem EX_up {b : Bool} {h h' : Nat} {ops : List Nat} (e : EX b h ops) (hh : h ≤ h') : EX b h' ops := by
  refine ⟨Nat.le_trans e.1 hh, fun y hy => ?_⟩
  obtain ⟨v, b1, b2, c, m⟩ := e.2 y hy
  exact ⟨v, b1, b2, fun n d F l len pc sp I L hl h35 hp hlen hs => c n d F l len pc sp I L hl h35 hp hlen (by omega), fun n d F s e pc sp I L hs5 hp he hs => m n d F s e pc sp I L hs5 hp he (by omega)⟩
theorem EX_join {b b' : Bool} {h h' h2 : Nat} {a c : List Nat} {o : Nat} (ea : EX b h a) (ec : EX b' h' c) (ho : o ≤ 8) (h1 : h ≤ h2) (h3 : h' + 1 ≤ h2) : EX (decide (4 ≤ o)) h2 (a ++ (c ++ [20000 + o])) := by
  refine ⟨Nat.le_trans ea.1 h1, fun y hy => ?_⟩
  obtain ⟨v, v1, _, vc, vm⟩ := ea.2 y hy
  obtain ⟨w, w1, _, wc, wm⟩ := ec.2 y hy
  have q := ec.1
  have len : (a ++ (c ++ [20000 + o])).length = a.length + (c.length + 1) := by simp
  refine ⟨jv o v w, jv_b o v w, fun z => jv_01 (of_decide_eq_true z) v w, ?_, ?_⟩
  · intro n d F l len' pc sp I L hl h35 hp hlen hs h37 hr
    rw [len] at hp ⊢
    obtain ⟨ra, rc⟩ := (RQ_app a pc _).mp hr
    obtain ⟨rc, ro⟩ := (RQ_app c _ _).mp rc
    obtain ⟨I1, a1, a2, a3, a4⟩ := vc n d (F + (c.length + 1)) l len' pc sp I L hl h35 (by omega) hlen (by omega) h37 ra
    obtain ⟨I2, c1, c2, c3, c4⟩ := wc n d (F + 1) l len' (pc + a.length) (sp + 1) I1 L hl (by rw [a4 35 (by omega)]; exact h35) (by omega) hlen (by omega) (by rw [a4 37 (by omega)]; exact h37) (by rw [a4 (31 + l) (by omega)]; exact rc)
    have st := cs_join (pc := pc + a.length + c.length) (sp := sp) n d F (I := I2) L (o := o) hl (by rw [c4 35 (by omega), a4 35 (by omega)]; exact h35) (by omega) hlen (by omega) ho (by rw [c4 (31 + l) (by omega), a4 (31 + l) (by omega)]; exact ro.1) (by rw [c3 sp (by omega)]; exact a2) c2 v1 w1
    refine ⟨am_up I2 36 sp (jv o v w), ?_, up_s rfl, fun j hj => by rw [up_n (by omega), c3 j (by omega), a3 j hj], fun k hk => by rw [am_up_ne hk, c4 k hk, a4 k hk]⟩
    rw [show F + (a.length + (c.length + 1)) = F + (c.length + 1) + a.length by omega, a1, show F + (c.length + 1) = F + 1 + c.length by omega, c1, st, show pc + (a.length + (c.length + 1)) = pc + a.length + c.length + 1 by omega]
  · intro n d F s e pc sp I L hs5 hp he hs h9 hk hr
    rw [len] at hp ⊢
    obtain ⟨ra, rc⟩ := (RQ_app a pc _).mp hr
    obtain ⟨rc, _⟩ := (RQ_app c _ _).mp rc
    obtain ⟨ka, kc⟩ := (RQ_app a pc _).mp hk
    obtain ⟨kc, ko⟩ := (RQ_app c _ _).mp kc
    obtain ⟨I1, a1, a2, a3, a4⟩ := vm n d (F + (c.length + 1)) s e pc sp I L hs5 (by omega) he (by omega) h9 ka ra
    obtain ⟨I2, c1, c2, c3, c4⟩ := wm n d (F + 1) s e (pc + a.length) (sp + 1) I1 L hs5 (by omega) he (by omega) (by rw [a4 9 (by omega)]; exact h9) (by rw [a4 2 (by omega)]; exact kc) (by rw [a4 3 (by omega)]; exact rc)
    have st := ms_join (pc := pc + a.length + c.length) (sp := sp) n d F (I := I2) L (o := o) hs5 (by omega) he (by omega) ho (by rw [c4 2 (by omega), a4 2 (by omega)]; exact ko.1) (by rw [c3 sp (by omega)]; exact a2) c2 v1 w1
    refine ⟨am_up I2 10 sp (jv o v w), ?_, up_s rfl, fun j hj => by rw [up_n (by omega), c3 j (by omega), a3 j hj], fun k hk => by rw [am_up_ne hk, c4 k hk, a4 k hk]⟩
    rw [show F + (a.length + (c.length + 1)) = F + (c.length + 1) + a.length by omega, a1, show F + (c.length + 1) = F + 1 + c.length by omega, c1, st, show pc + (a.length + (c.length + 1)) = pc + a.length + c.length + 1 by omega]
theorem EX_not {h : Nat} {a : List Nat} (ea : EX true h a) : EX true h (a ++ [30000]) := by
  refine ⟨ea.1, fun y hy => ?_⟩
  obtain ⟨v, v1, v2, vc, vm⟩ := ea.2 y hy
  have q := ea.1
  have len : (a ++ [30000]).length = a.length + 1 := by simp
  obtain ⟨z, hz, z1⟩ : ∃ z, v = nI z ∧ z ≤ 1 := by
    rcases v2 rfl with e | e
    · exact ⟨0, e, by omega⟩
    · exact ⟨1, e, by omega⟩
  subst hz
  refine ⟨nI (1 - z), BV_n (by omega), fun _ => ?_, ?_, ?_⟩
  · by_cases c : z = 0
    · subst c; exact Or.inr rfl
    · rw [show 1 - z = 0 by omega]; exact Or.inl rfl
  · intro n d F l len' pc sp I L hl h35 hp hlen hs h37 hr
    rw [len] at hp ⊢
    obtain ⟨ra, ro⟩ := (RQ_app a pc _).mp hr
    obtain ⟨I1, a1, a2, a3, a4⟩ := vc n d (F + 1) l len' pc sp I L hl h35 (by omega) hlen (by omega) h37 ra
    have st := cs_not (pc := pc + a.length) (sp := sp) n d F (I := I1) L hl (by rw [a4 35 (by omega)]; exact h35) (by omega) hlen (by omega) (by rw [a4 (31 + l) (by omega)]; exact ro.1) a2 z1
    refine ⟨am_up I1 36 sp (nI (1 - z)), ?_, up_s rfl, fun j hj => by rw [up_n (by omega), a3 j hj], fun k hk => by rw [am_up_ne hk, a4 k hk]⟩
    rw [show F + (a.length + 1) = F + 1 + a.length by omega, a1, st, show pc + (a.length + 1) = pc + a.length + 1 by omega]
  · intro n d F s e pc sp I L hs5 hp he hs h9 hk hr
    rw [len] at hp ⊢
    obtain ⟨ra, _⟩ := (RQ_app a pc _).mp hr
    obtain ⟨ka, ko⟩ := (RQ_app a pc _).mp hk
    obtain ⟨I1, a1, a2, a3, a4⟩ := vm n d (F + 1) s e pc sp I L hs5 (by omega) he (by omega) h9 ka ra
    have st := ms_not (pc := pc + a.length) (sp := sp) n d F (I := I1) L hs5 (by omega) he (by omega) (by rw [a4 2 (by omega)]; exact ko.1) a2 z1
    refine ⟨am_up I1 10 sp (nI (1 - z)), ?_, up_s rfl, fun j hj => by rw [up_n (by omega), a3 j hj], fun k hk => by rw [am_up_ne hk, a4 k hk]⟩
    rw [show F + (a.length + 1) = F + 1 + a.length by omega, a1, st, show pc + (a.length + 1) = pc + a.length + 1 by omega]
