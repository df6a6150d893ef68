/-! THE RELATION of the class's state and the model's, and what keeps it -/
def TP (IC IM : am_I) (n : Nat) (c : Nat → Int32) : Prop := n ≤ 240 ∧ IC 1 1 = nI n ∧ IM 0 2 = nI n ∧ IC 2 = c ∧ IM 1 = c ∧ ∀ j, j < n → ∃ k, k ≤ 255 ∧ c j = nI k
theorem TP_t {IC IM : am_I} {n : Nat} {c : Nat → Int32} (h : TP IC IM n c) : ∃ t, GT n t ∧ TC IC n t ∧ TM IM n t := by
  obtain ⟨h1, h2, h3, h4, h5, h6⟩ := h
  refine ⟨fun j => (c j).toNatClampNeg, ⟨h1, fun j hj => ?_⟩, ⟨h2, fun j hj => ?_⟩, ⟨h3, fun j hj => ?_⟩⟩
  · obtain ⟨k, k1, k2⟩ := h6 j hj
    show (c j).toNatClampNeg ≤ 255
    rw [k2, nI_clamp (by omega)]
    exact k1
  · obtain ⟨k, k1, k2⟩ := h6 j hj
    show IC 2 j = nI ((c j).toNatClampNeg)
    rw [h4, k2, nI_clamp (by omega)]
  · obtain ⟨k, k1, k2⟩ := h6 j hj
    show IM 1 j = nI ((c j).toNatClampNeg)
    rw [h5, k2, nI_clamp (by omega)]
theorem TP_eq {IC IM IC' IM' : am_I} {n : Nat} {c : Nat → Int32} (h : TP IC IM n c) (e1 : IC' 1 1 = IC 1 1) (e2 : IC' 2 = IC 2) (e3 : IM' 0 2 = IM 0 2) (e4 : IM' 1 = IM 1) : TP IC' IM' n c := by
  unfold TP at *
  rw [e1, e2, e3, e4]
  exact h
theorem CS_eq {I I' : am_I} {g : Nat → Nat → Nat} (h : CS I g) (e3 : I' 3 = I 3) (e4 : I' 4 = I 4) (e5 : I' 5 = I 5) (e6 : I' 6 = I 6) (e7 : I' 7 = I 7) (e8 : I' 8 = I 8) (e9 : I' 9 = I 9) (e10 : I' 10 = I 10) (e11 : I' 11 = I 11) (e12 : I' 12 = I 12) (e13 : I' 13 = I 13) (e40 : I' 40 = I 40) (e41 : I' 41 = I 41) (f4 : I' 39 4 = I 39 4) (f5 : I' 39 5 = I 39 5) : CS I' g := by
  unfold CS at *
  rw [e3, e4, e5, e6, e7, e8, e9, e10, e11, e12, e13, e40, e41, f4, f5]
  exact h
theorem CL_eq {I I' : am_I} {W : Nat → (Nat → Nat) → Int32} {q : Nat → Nat} (hl : GL q) (h : CL I W q) (e5 : I' 29 5 = I 29 5) (e6 : I' 29 6 = I 29 6) (e31 : I' 31 = I 31) (e32 : I' 32 = I 32) (e33 : I' 33 = I 33) (e34 : I' 34 = I 34) (e35 : I' 35 = I 35) : CL I' W q := by
  have b := hl.1
  refine ⟨e5.trans h.1, e6.trans h.2.1, fun l hlt => CLaw_of (h.2.2 l hlt) (fun j => ?_) (by rw [e35])⟩
  have : l = 0 ∨ l = 1 ∨ l = 2 ∨ l = 3 := by omega
  rcases this with z | z | z | z <;> subst z
  · exact congrFun e31 j
  · exact congrFun e32 j
  · exact congrFun e33 j
  · exact congrFun e34 j
theorem CH_eq {I I' : am_I} {W : Nat → (Nat → Nat) → Int32} {q : Nat → Nat} {g : Nat → Nat → Nat} (h : CH I W q g) (e : I' 39 6 = I 39 6) : CH I' W q g := e.trans h
theorem CI_eq {I I' : am_I} {L L' : am_L} {μ b : Nat} {s : Nat → Nat → Nat} {w : Nat} {e : Nat → Nat} (h : CI I L μ b s w e) (e7 : I' 45 7 = I 45 7) (e48 : I' 48 40 = I 48 40) (e49 : I' 49 40 = I 49 40) (e2 : I' 42 2 = I 42 2) (e44 : I' 44 = I 44) (l6 : L' 46 40 = L 46 40) (l7 : L' 47 40 = L 47 40) : CI I' L' μ b s w e := by
  unfold CI PK at *
  rw [e7, e48, e49, e2, e44, l6, l7]
  exact h
theorem CX_eq {I I' : am_I} {x : Nat → Nat → Nat} (h : CX I x) (e5 : I' 60 5 = I 60 5) (e61 : I' 61 = I 61) (e62 : I' 62 = I 62) : CX I' x := by
  unfold CX at *
  rw [e5, e61, e62]
  exact h
theorem rDu_eq {I I' : am_I} {g : Nat → Nat → Nat} (h : g 0 0 = 0 ∨ rDu I g) (e52 : I' 52 = I 52) (e53 : I' 53 = I 53) (e54 : I' 54 = I 54) (e55 : I' 55 = I 55) (e67 : I' 67 = I 67) (e8 : I' 51 8 = I 51 8) (e9 : I' 51 9 = I 51 9) (e10 : I' 51 10 = I 51 10) (e11 : I' 51 11 = I 51 11) : g 0 0 = 0 ∨ rDu I' g := by
  unfold rDu DL SO RY TF at *
  rw [e52, e53, e54, e55, e67, e8, e9, e10, e11]
  exact h
theorem cdD_sa {g g' : Nat → Nat → Nat} (sa : SA g g') (x y a r b q : Nat) : cdD g' x y a r b q = cdD g x y a r b q := by
  unfold cdD
  rw [DU_sa sa]
theorem rDu_sa {I : am_I} {g g' : Nat → Nat → Nat} (sa : SA g g') (h : g 0 0 = 0 ∨ rDu I g) : g' 0 0 = 0 ∨ rDu I g' := by
  rcases h with h | ⟨h1, h2, h3⟩
  · exact Or.inl ((sa.2 0 (by omega)).trans h)
  · refine Or.inr ⟨DL_sa h1 sa, h2, ?_⟩
    rcases h3 with h3 | ⟨x, y, G, O, hx, hy, h4, h5, h6, h7, h8, h9, h10⟩
    · exact Or.inl h3
    · refine Or.inr ⟨x, y, G, O, hx, hy, h4, h5, h6, h7, h8, h9, fun a r b q z1 z2 z3 z4 z5 z6 z7 z8 => ?_⟩
      have p1 : ∀ u v, plc g' u v = plc g u v := fun u v => by unfold plc; rw [lwS_sa sa]
      rw [gRest_sa sa] at z3 z6
      rw [p1] at z7 z8
      rw [p1, p1, cdD_sa sa]
      exact h10 a r b q z1 z2 z3 z4 z5 z6 z7 z8
theorem MS_eq {I I' : am_I} {g : Nat → Nat → Nat} (h : MS I g) (e25 : I' 0 25 = I 0 25) (e26 : I' 0 26 = I 0 26) (e14 : I' 14 = I 14) (e15 : I' 15 = I 15) (e16 : I' 16 = I 16) (e17 : I' 17 = I 17) : MS I' g := by
  unfold MS at *
  rw [e25, e26, e14, e15, e16, e17]
  exact h
theorem ML_eq {I I' : am_I} {W : Nat → (Nat → Nat) → Int32} {q : Nat → Nat} (h : ML I W q) (e0 : I' 0 13 = I 0 13) (e1 : I' 0 28 = I 0 28) (e2 : I' 2 = I 2) (e3 : I' 3 = I 3) (e4 : I' 4 = I 4) (e5 : I' 5 = I 5) (e6 : I' 6 = I 6) (e7 : I' 7 = I 7) (e8 : I' 8 = I 8) : ML I' W q := ML_up h e0 e1 (fun k a b => by
  have : k = 2 ∨ k = 3 ∨ k = 4 ∨ k = 5 ∨ k = 6 ∨ k = 7 ∨ k = 8 := by omega
  rcases this with z | z | z | z | z | z | z <;> subst z <;> assumption)
theorem MI_eq {I I' : am_I} {μ b : Nat} {s : Nat → Nat → Nat} {w : Nat} {e : Nat → Nat} (h : MI I μ b s w e) (e43 : I' 0 43 = I 0 43) (e25 : I' 25 = I 25) : MI I' μ b s w e := by
  unfold MI at *
  rw [e43, e25]
  exact h
theorem MX_eq {I I' : am_I} {x : Nat → Nat → Nat} (h : MX I x) (e39 : I' 0 39 = I 0 39) (e21 : I' 21 = I 21) (e22 : I' 22 = I 22) : MX I' x := by
  unfold MX at *
  rw [e39, e21, e22]
  exact h
/-- THE RELATION -/
def ReL (al : Bool) (IC : am_I) (LC : am_L) (IM : am_I) (_ : am_L) : Prop := ∃ (n : Nat) (c : Nat → Int32) (W : Nat → (Nat → Nat) → Int32) (q : Nat → Nat) (g : Nat → Nat → Nat) (a : Nat) (K : Nat → Nat → Nat → Nat) (kw l : Nat → Nat) (b : Nat) (s : Nat → Nat → Nat) (w : Nat) (e : Nat → Nat) (x : Nat → Nat → Nat), TP IC IM n c ∧ DY IC LC IM W q g a K kw l ∧ (GI g b s w e ∧ CI IC LC (g 0 0) b s w e ∧ MI IM (g 0 0) b s w e) ∧ (GX x ∧ CX IC x ∧ MX IM x) ∧ SO IC ∧ (g 0 0 = 0 ∨ rDu IC g) ∧ (al = false → IC 51 8 = nI 0)
theorem R_scr {al : Bool} {IC : am_I} {LC : am_L} {IM : am_I} {LM : am_L} {IC' IM' : am_I} {LM' : am_L} (h : ReL al IC LC IM LM) (A : am_ag scrC IC IC') (B : am_ag scrM IM IM') : ReL al IC' LC IM' LM' := by
  obtain ⟨n, c, W, q, g, a, K, kw, l, b, s, w, e, x, hT, hD, ⟨i1, i2, i3⟩, ⟨x1, x2, x3⟩, so, hR, hA⟩ := h
  obtain ⟨h1, hl, h3, h4, h5, h6, h7, h8, h9, h10⟩ := id hD
  exact ⟨n, c, W, q, g, a, K, kw, l, b, s, w, e, x, TP_eq hT (A 1 1 rfl) (funext (fun j => A 2 j rfl)) (B 0 2 rfl) (funext (fun j => B 1 j rfl)), ⟨h1, hl, CS_eq h3 (funext (fun j => A 3 j rfl)) (funext (fun j => A 4 j rfl)) (funext (fun j => A 5 j rfl)) (funext (fun j => A 6 j rfl)) (funext (fun j => A 7 j rfl)) (funext (fun j => A 8 j rfl)) (funext (fun j => A 9 j rfl)) (funext (fun j => A 10 j rfl)) (funext (fun j => A 11 j rfl)) (funext (fun j => A 12 j rfl)) (funext (fun j => A 13 j rfl)) (funext (fun j => A 40 j rfl)) (funext (fun j => A 41 j rfl)) (A 39 4 rfl) (A 39 5 rfl), CL_eq hl h4 (A 29 5 rfl) (A 29 6 rfl) (funext (fun j => A 31 j rfl)) (funext (fun j => A 32 j rfl)) (funext (fun j => A 33 j rfl)) (funext (fun j => A 34 j rfl)) (funext (fun j => A 35 j rfl)), CH_eq h5 (A 39 6 rfl), MS_eq h6 (B 0 25 rfl) (B 0 26 rfl) (funext (fun j => B 14 j rfl)) (funext (fun j => B 15 j rfl)) (funext (fun j => B 16 j rfl)) (funext (fun j => B 17 j rfl)), ML_keep hl h7 B, h8, CP_eq h9 h8.1 (A 45 5 rfl) (A 45 6 rfl) (A 42 3 rfl) (funext (fun j => A 43 j rfl)) (fun j _ => ⟨A 48 j rfl, A 49 j rfl, A 50 j rfl, rfl, rfl⟩), MP_eq h10 (B 0 30 rfl) (funext (fun j => B 18 j rfl)) (fun j _ => B 17 j rfl)⟩, ⟨i1, CI_eq i2 (A 45 7 rfl) (A 48 40 rfl) (A 49 40 rfl) (A 42 2 rfl) (funext (fun j => A 44 j rfl)) rfl rfl, MI_eq i3 (B 0 43 rfl) (funext (fun j => B 25 j rfl))⟩, ⟨x1, CX_eq x2 (A 60 5 rfl) (funext (fun j => A 61 j rfl)) (funext (fun j => A 62 j rfl)), MX_eq x3 (B 0 39 rfl) (funext (fun j => B 21 j rfl)) (funext (fun j => B 22 j rfl))⟩, SO_ne so (funext (fun j => A 54 j rfl)), rDu_eq hR (funext (fun j => A 52 j rfl)) (funext (fun j => A 53 j rfl)) (funext (fun j => A 54 j rfl)) (funext (fun j => A 55 j rfl)) (funext (fun j => A 67 j rfl)) (A 51 8 rfl) (A 51 9 rfl) (A 51 10 rfl) (A 51 11 rfl), fun z => (A 51 8 rfl).trans (hA z)⟩
theorem R_lm {al : Bool} {IC : am_I} {LC : am_L} {IM : am_I} {LM : am_L} {LM' : am_L} (h : ReL al IC LC IM LM) : ReL al IC LC IM LM' := h
theorem R_al {al : Bool} {IC : am_I} {LC : am_L} {IM : am_I} {LM : am_L} {LC' LM' : am_L} (h : ReL al IC LC IM LM) (A : am_al 65 LC LC') : ReL al IC LC' IM LM' := by
  obtain ⟨n, c, W, q, g, a, K, kw, l, b, s, w, e, x, hT, hD, ⟨i1, i2, i3⟩, ⟨x1, x2, x3⟩, so, hR, hA⟩ := h
  obtain ⟨h1, hl, h3, h4, h5, h6, h7, h8, h9, h10⟩ := id hD
  exact ⟨n, c, W, q, g, a, K, kw, l, b, s, w, e, x, hT, ⟨h1, hl, h3, h4, h5, h6, h7, h8, CP_eq h9 h8.1 rfl rfl rfl rfl (fun j _ => ⟨rfl, rfl, rfl, congrFun (A 46 (by omega)) j, congrFun (A 47 (by omega)) j⟩), h10⟩, ⟨i1, CI_eq i2 rfl rfl rfl rfl rfl (congrFun (A 46 (by omega)) 40) (congrFun (A 47 (by omega)) 40), i3⟩, ⟨x1, x2, x3⟩, so, hR, hA⟩
theorem R_act {X Y : Option (Int32 × am_I × am_L)} {al : Bool} {IC : am_I} {LC : am_L} {IM : am_I} {n : Nat} {c : Nat → Int32} {W : Nat → (Nat → Nat) → Int32} {q : Nat → Nat} {g : Nat → Nat → Nat} {b : Nat} {s : Nat → Nat → Nat} {w : Nat} {e : Nat → Nat} {x : Nat → Nat → Nat} (hT : TP IC IM n c) (i1 : GI g b s w e) (i2 : CI IC LC (g 0 0) b s w e) (i3 : MI IM (g 0 0) b s w e) (x1 : GX x) (x2 : CX IC x) (x3 : MX IM x) (so : SO IC) (hR : g 0 0 = 0 ∨ rDu IC g) (hA : al = false → IC 51 8 = nI 0) (h : am_act X Y IC LC IM W q g) : ∃ (r : Int32) (IC' : am_I) (LC' : am_L) (IM' : am_I) (LM' : am_L), X = some (r, IC', LC') ∧ Y = some (r, IM', LM') ∧ ReL al IC' LC' IM' LM' := by
  obtain ⟨r, IC', LC', IM', LM', g', a', K', kw', l', w1, w2, w3, sa, A, AL, B⟩ := h
  have z0 : g' 0 0 = g 0 0 := sa.2 0 (by omega)
  refine ⟨r, IC', LC', IM', LM', w1, w2, n, c, W, q, g', a', K', kw', l', b, s, w, e, x, TP_eq hT (A 1 1 rfl) (funext (fun j => A 2 j rfl)) (B 0 2 rfl) (funext (fun j => B 1 j rfl)), w3, ⟨GI_sa i1 sa, ?_, ?_⟩, ⟨x1, CX_eq x2 (A 60 5 rfl) (funext (fun j => A 61 j rfl)) (funext (fun j => A 62 j rfl)), MX_eq x3 (B 0 39 rfl) (funext (fun j => B 21 j rfl)) (funext (fun j => B 22 j rfl))⟩, SO_ne so (funext (fun j => A 54 j rfl)), rDu_sa sa (rDu_eq hR (funext (fun j => A 52 j rfl)) (funext (fun j => A 53 j rfl)) (funext (fun j => A 54 j rfl)) (funext (fun j => A 55 j rfl)) (funext (fun j => A 67 j rfl)) (A 51 8 rfl) (A 51 9 rfl) (A 51 10 rfl) (A 51 11 rfl)), fun z => (A 51 8 rfl).trans (hA z)⟩
  · rw [z0]; exact CI_keep i2 A AL
  · rw [z0]; exact MI_keep i3 B
theorem R_let {al : Bool} {IC : am_I} {LC : am_L} {IM : am_I} {LM : am_L} {IC' IM' : am_I} {LM' : am_L} {x' : Nat → Nat → Nat} (h : ReL al IC LC IM LM) (y1 : GX x') (y2 : CX IC' x') (y3 : MX IM' x') (A : am_ag sLC IC IC') (B : am_ag sLM IM IM') : ReL al IC' LC IM' LM' := by
  obtain ⟨n, c, W, q, g, a, K, kw, l, b, s, w, e, x, hT, hD, ⟨i1, i2, i3⟩, ⟨x1, x2, x3⟩, so, hR, hA⟩ := h
  obtain ⟨h1, hl, h3, h4, h5, h6, h7, h8, h9, h10⟩ := id hD
  exact ⟨n, c, W, q, g, a, K, kw, l, b, s, w, e, x', TP_eq hT (A 1 1 rfl) (funext (fun j => A 2 j rfl)) (B 0 2 rfl) (funext (fun j => B 1 j rfl)), ⟨h1, hl, CS_eq h3 (funext (fun j => A 3 j rfl)) (funext (fun j => A 4 j rfl)) (funext (fun j => A 5 j rfl)) (funext (fun j => A 6 j rfl)) (funext (fun j => A 7 j rfl)) (funext (fun j => A 8 j rfl)) (funext (fun j => A 9 j rfl)) (funext (fun j => A 10 j rfl)) (funext (fun j => A 11 j rfl)) (funext (fun j => A 12 j rfl)) (funext (fun j => A 13 j rfl)) (funext (fun j => A 40 j rfl)) (funext (fun j => A 41 j rfl)) (A 39 4 rfl) (A 39 5 rfl), CL_eq hl h4 (A 29 5 rfl) (A 29 6 rfl) (funext (fun j => A 31 j rfl)) (funext (fun j => A 32 j rfl)) (funext (fun j => A 33 j rfl)) (funext (fun j => A 34 j rfl)) (funext (fun j => A 35 j rfl)), CH_eq h5 (A 39 6 rfl), MS_eq h6 (B 0 25 rfl) (B 0 26 rfl) (funext (fun j => B 14 j rfl)) (funext (fun j => B 15 j rfl)) (funext (fun j => B 16 j rfl)) (funext (fun j => B 17 j rfl)), ML_eq h7 (B 0 13 rfl) (B 0 28 rfl) (funext (fun j => B 2 j rfl)) (funext (fun j => B 3 j rfl)) (funext (fun j => B 4 j rfl)) (funext (fun j => B 5 j rfl)) (funext (fun j => B 6 j rfl)) (funext (fun j => B 7 j rfl)) (funext (fun j => B 8 j rfl)), h8, CP_eq h9 h8.1 (A 45 5 rfl) (A 45 6 rfl) (A 42 3 rfl) (funext (fun j => A 43 j rfl)) (fun j _ => ⟨A 48 j rfl, A 49 j rfl, A 50 j rfl, rfl, rfl⟩), MP_eq h10 (B 0 30 rfl) (funext (fun j => B 18 j rfl)) (fun j _ => B 17 j rfl)⟩, ⟨i1, CI_eq i2 (A 45 7 rfl) (A 48 40 rfl) (A 49 40 rfl) (A 42 2 rfl) (funext (fun j => A 44 j rfl)) rfl rfl, MI_eq i3 (B 0 43 rfl) (funext (fun j => B 25 j rfl))⟩, ⟨y1, y2, y3⟩, SO_ne so (funext (fun j => A 54 j rfl)), rDu_eq hR (funext (fun j => A 52 j rfl)) (funext (fun j => A 53 j rfl)) (funext (fun j => A 54 j rfl)) (funext (fun j => A 55 j rfl)) (funext (fun j => A 67 j rfl)) (A 51 8 rfl) (A 51 9 rfl) (A 51 10 rfl) (A 51 11 rfl), fun z => (A 51 8 rfl).trans (hA z)⟩
theorem R_law2 {al : Bool} {IC : am_I} {LC : am_L} {IM : am_I} {IC' IM' : am_I} {LM' : am_L} {n : Nat} {c : Nat → Int32} {W : Nat → (Nat → Nat) → Int32} {q q' : Nat → Nat} {g : Nat → Nat → Nat} {a : Nat} {K : Nat → Nat → Nat → Nat} {kw l : Nat → Nat} {b : Nat} {s : Nat → Nat → Nat} {w : Nat} {e : Nat → Nat} {x : Nat → Nat → Nat} (hT : TP IC IM n c) (hD : DY IC LC IM W q g a K kw l) (i1 : GI g b s w e) (i2 : CI IC LC (g 0 0) b s w e) (i3 : MI IM (g 0 0) b s w e) (x1 : GX x) (x2 : CX IC x) (x3 : MX IM x) (so : SO IC) (hR : g 0 0 = 0 ∨ rDu IC g) (hA : al = false → IC 51 8 = nI 0) (u1 : GL q') (u2 : CS IC' g) (u3 : CL IC' W q') (u4 : CH IC' W q' g) (u5 : MS IM' g) (u6 : ML IM' W q') (A : am_ag sLw IC IC') (B : am_ag sLwM IM IM') : ReL al IC' LC IM' LM' := by
  obtain ⟨h1, hl, h3, h4, h5, h6, h7, h8, h9, h10⟩ := id hD
  exact ⟨n, c, W, q', g, a, K, kw, l, b, s, w, e, x, TP_eq hT (A 1 1 rfl) (funext (fun j => A 2 j rfl)) (B 0 2 rfl) (funext (fun j => B 1 j rfl)), ⟨h1, u1, u2, u3, u4, u5, u6, h8, CP_eq h9 h8.1 (A 45 5 rfl) (A 45 6 rfl) (A 42 3 rfl) (funext (fun j => A 43 j rfl)) (fun j _ => ⟨A 48 j rfl, A 49 j rfl, A 50 j rfl, rfl, rfl⟩), MP_eq h10 (B 0 30 rfl) (funext (fun j => B 18 j rfl)) (fun j _ => B 17 j rfl)⟩, ⟨i1, CI_eq i2 (A 45 7 rfl) (A 48 40 rfl) (A 49 40 rfl) (A 42 2 rfl) (funext (fun j => A 44 j rfl)) rfl rfl, MI_eq i3 (B 0 43 rfl) (funext (fun j => B 25 j rfl))⟩, ⟨x1, CX_eq x2 (A 60 5 rfl) (funext (fun j => A 61 j rfl)) (funext (fun j => A 62 j rfl)), MX_eq x3 (B 0 39 rfl) (funext (fun j => B 21 j rfl)) (funext (fun j => B 22 j rfl))⟩, SO_ne so (funext (fun j => A 54 j rfl)), rDu_eq hR (funext (fun j => A 52 j rfl)) (funext (fun j => A 53 j rfl)) (funext (fun j => A 54 j rfl)) (funext (fun j => A 55 j rfl)) (funext (fun j => A 67 j rfl)) (A 51 8 rfl) (A 51 9 rfl) (A 51 10 rfl) (A 51 11 rfl), fun z => (A 51 8 rfl).trans (hA z)⟩
theorem R_img {al : Bool} {IC : am_I} {LC : am_L} {IM : am_I} {IC' IM' : am_I} {LC' LM' : am_L} {n : Nat} {c : Nat → Int32} {W : Nat → (Nat → Nat) → Int32} {q : Nat → Nat} {g : Nat → Nat → Nat} {a : Nat} {K : Nat → Nat → Nat → Nat} {kw l : Nat → Nat} {b : Nat} {s : Nat → Nat → Nat} {w : Nat} {e : Nat → Nat} {x : Nat → Nat → Nat} (hT : TP IC IM n c) (x1 : GX x) (x2 : CX IC x) (x3 : MX IM x) (so : SO IC) (hR : g 0 0 = 0 ∨ rDu IC g) (hA : al = false → IC 51 8 = nI 0) (hD : DY IC' LC' IM' W q g a K kw l) (i1 : GI g b s w e) (i2 : CI IC' LC' (g 0 0) b s w e) (i3 : MI IM' (g 0 0) b s w e) (A : am_ag sIC IC IC') (B : am_ag sIM IM IM') : ReL al IC' LC' IM' LM' :=
  ⟨n, c, W, q, g, a, K, kw, l, b, s, w, e, x, TP_eq hT (A 1 1 rfl) (funext (fun j => A 2 j rfl)) (B 0 2 rfl) (funext (fun j => B 1 j rfl)), hD, ⟨i1, i2, i3⟩, ⟨x1, CX_eq x2 (A 60 5 rfl) (funext (fun j => A 61 j rfl)) (funext (fun j => A 62 j rfl)), MX_eq x3 (B 0 39 rfl) (funext (fun j => B 21 j rfl)) (funext (fun j => B 22 j rfl))⟩, SO_ne so (funext (fun j => A 54 j rfl)), rDu_eq hR (funext (fun j => A 52 j rfl)) (funext (fun j => A 53 j rfl)) (funext (fun j => A 54 j rfl)) (funext (fun j => A 55 j rfl)) (funext (fun j => A 67 j rfl)) (A 51 8 rfl) (A 51 9 rfl) (A 51 10 rfl) (A 51 11 rfl), fun z => (A 51 8 rfl).trans (hA z)⟩
theorem R_du {al : Bool} {IC : am_I} {LC : am_L} {IM : am_I} {al' : Bool} {IC' IM' : am_I} {LM' : am_L} {n : Nat} {c : Nat → Int32} {W : Nat → (Nat → Nat) → Int32} {q : Nat → Nat} {g : Nat → Nat → Nat} {a : Nat} {K : Nat → Nat → Nat → Nat} {kw l : Nat → Nat} {b : Nat} {s : Nat → Nat → Nat} {w : Nat} {e : Nat → Nat} {x : Nat → Nat → Nat} (hT : TP IC IM n c) (hD : DY IC LC IM W q g a K kw l) (i1 : GI g b s w e) (i2 : CI IC LC (g 0 0) b s w e) (i3 : MI IM (g 0 0) b s w e) (x1 : GX x) (x2 : CX IC x) (x3 : MX IM x) (so : SO IC) (A : am_ag sDq IC IC') (B : am_ag scrM IM IM') (hR : g 0 0 = 0 ∨ rDu IC' g) (hA : al' = false → IC' 51 8 = nI 0) : ReL al' IC' LC IM' LM' := by
  obtain ⟨h1, hl, h3, h4, h5, h6, h7, h8, h9, h10⟩ := id hD
  exact ⟨n, c, W, q, g, a, K, kw, l, b, s, w, e, x, TP_eq hT (A 1 1 rfl) (funext (fun j => A 2 j rfl)) (B 0 2 rfl) (funext (fun j => B 1 j rfl)), ⟨h1, hl, CS_eq h3 (funext (fun j => A 3 j rfl)) (funext (fun j => A 4 j rfl)) (funext (fun j => A 5 j rfl)) (funext (fun j => A 6 j rfl)) (funext (fun j => A 7 j rfl)) (funext (fun j => A 8 j rfl)) (funext (fun j => A 9 j rfl)) (funext (fun j => A 10 j rfl)) (funext (fun j => A 11 j rfl)) (funext (fun j => A 12 j rfl)) (funext (fun j => A 13 j rfl)) (funext (fun j => A 40 j rfl)) (funext (fun j => A 41 j rfl)) (A 39 4 rfl) (A 39 5 rfl), CL_eq hl h4 (A 29 5 rfl) (A 29 6 rfl) (funext (fun j => A 31 j rfl)) (funext (fun j => A 32 j rfl)) (funext (fun j => A 33 j rfl)) (funext (fun j => A 34 j rfl)) (funext (fun j => A 35 j rfl)), CH_eq h5 (A 39 6 rfl), MS_eq h6 (B 0 25 rfl) (B 0 26 rfl) (funext (fun j => B 14 j rfl)) (funext (fun j => B 15 j rfl)) (funext (fun j => B 16 j rfl)) (funext (fun j => B 17 j rfl)), ML_keep hl h7 B, h8, CP_eq h9 h8.1 (A 45 5 rfl) (A 45 6 rfl) (A 42 3 rfl) (funext (fun j => A 43 j rfl)) (fun j _ => ⟨A 48 j rfl, A 49 j rfl, A 50 j rfl, rfl, rfl⟩), MP_eq h10 (B 0 30 rfl) (funext (fun j => B 18 j rfl)) (fun j _ => B 17 j rfl)⟩, ⟨i1, CI_eq i2 (A 45 7 rfl) (A 48 40 rfl) (A 49 40 rfl) (A 42 2 rfl) (funext (fun j => A 44 j rfl)) rfl rfl, MI_eq i3 (B 0 43 rfl) (funext (fun j => B 25 j rfl))⟩, ⟨x1, CX_eq x2 (A 60 5 rfl) (funext (fun j => A 61 j rfl)) (funext (fun j => A 62 j rfl)), MX_eq x3 (B 0 39 rfl) (funext (fun j => B 21 j rfl)) (funext (fun j => B 22 j rfl))⟩, SO_ne so (funext (fun j => A 54 j rfl)), hR, hA⟩
def sPC (k j : Nat) : Bool := (k == 1 && j == 1) || k == 2
def sPM (k j : Nat) : Bool := (k == 0 && j == 2) || k == 1
theorem R_tp {al : Bool} {IC : am_I} {LC : am_L} {IM : am_I} {LM : am_L} {IC' IM' : am_I} {LM' : am_L} {n' : Nat} {c' : Nat → Int32} (h : ReL al IC LC IM LM) (hT' : TP IC' IM' n' c') (A : am_ag sPC IC IC') (B : am_ag sPM IM IM') : ReL al IC' LC IM' LM' := by
  obtain ⟨n, c, W, q, g, a, K, kw, l, b, s, w, e, x, hT, hD, ⟨i1, i2, i3⟩, ⟨x1, x2, x3⟩, so, hR, hA⟩ := h
  obtain ⟨h1, hl, h3, h4, h5, h6, h7, h8, h9, h10⟩ := id hD
  exact ⟨n', c', W, q, g, a, K, kw, l, b, s, w, e, x, hT', ⟨h1, hl, CS_eq h3 (funext (fun j => A 3 j rfl)) (funext (fun j => A 4 j rfl)) (funext (fun j => A 5 j rfl)) (funext (fun j => A 6 j rfl)) (funext (fun j => A 7 j rfl)) (funext (fun j => A 8 j rfl)) (funext (fun j => A 9 j rfl)) (funext (fun j => A 10 j rfl)) (funext (fun j => A 11 j rfl)) (funext (fun j => A 12 j rfl)) (funext (fun j => A 13 j rfl)) (funext (fun j => A 40 j rfl)) (funext (fun j => A 41 j rfl)) (A 39 4 rfl) (A 39 5 rfl), CL_eq hl h4 (A 29 5 rfl) (A 29 6 rfl) (funext (fun j => A 31 j rfl)) (funext (fun j => A 32 j rfl)) (funext (fun j => A 33 j rfl)) (funext (fun j => A 34 j rfl)) (funext (fun j => A 35 j rfl)), CH_eq h5 (A 39 6 rfl), MS_eq h6 (B 0 25 rfl) (B 0 26 rfl) (funext (fun j => B 14 j rfl)) (funext (fun j => B 15 j rfl)) (funext (fun j => B 16 j rfl)) (funext (fun j => B 17 j rfl)), ML_eq h7 (B 0 13 rfl) (B 0 28 rfl) (funext (fun j => B 2 j rfl)) (funext (fun j => B 3 j rfl)) (funext (fun j => B 4 j rfl)) (funext (fun j => B 5 j rfl)) (funext (fun j => B 6 j rfl)) (funext (fun j => B 7 j rfl)) (funext (fun j => B 8 j rfl)), h8, CP_eq h9 h8.1 (A 45 5 rfl) (A 45 6 rfl) (A 42 3 rfl) (funext (fun j => A 43 j rfl)) (fun j _ => ⟨A 48 j rfl, A 49 j rfl, A 50 j rfl, rfl, rfl⟩), MP_eq h10 (B 0 30 rfl) (funext (fun j => B 18 j rfl)) (fun j _ => B 17 j rfl)⟩, ⟨i1, CI_eq i2 (A 45 7 rfl) (A 48 40 rfl) (A 49 40 rfl) (A 42 2 rfl) (funext (fun j => A 44 j rfl)) rfl rfl, MI_eq i3 (B 0 43 rfl) (funext (fun j => B 25 j rfl))⟩, ⟨x1, CX_eq x2 (A 60 5 rfl) (funext (fun j => A 61 j rfl)) (funext (fun j => A 62 j rfl)), MX_eq x3 (B 0 39 rfl) (funext (fun j => B 21 j rfl)) (funext (fun j => B 22 j rfl))⟩, SO_ne so (funext (fun j => A 54 j rfl)), rDu_eq hR (funext (fun j => A 52 j rfl)) (funext (fun j => A 53 j rfl)) (funext (fun j => A 54 j rfl)) (funext (fun j => A 55 j rfl)) (funext (fun j => A 67 j rfl)) (A 51 8 rfl) (A 51 9 rfl) (A 51 10 rfl) (A 51 11 rfl), fun z => (A 51 8 rfl).trans (hA z)⟩
theorem cd_mt {l k j : Nat} (hl : l < 4) (h : cdM l k j = true) : sMt k j = false := by
  have h1 := cd_scr hl h
  have h2 : 2 ≤ k ∧ k ≤ 8 := by
    unfold cdM at h
    split at h <;> first | omega | (cases h)
  unfold sMt sTm
  rw [h1]
  simp
  omega
theorem R_war {al : Bool} {IC : am_I} {LC : am_L} {IM : am_I} {IC' IM' : am_I} {LM' : am_L} {n : Nat} {c : Nat → Int32} {W : Nat → (Nat → Nat) → Int32} {q : Nat → Nat} {g g' : Nat → Nat → Nat} {a : Nat} {K : Nat → Nat → Nat → Nat} {kw l : Nat → Nat} (hT : TP IC IM n c) (hD : DY IC LC IM W q g a K kw l) (w1 : GW g') (w4 : CS IC' g') (w5 : CH IC' W q g') (w6 : MS IM' g') (w7 : DL IC' g') (v1 : IC' 51 8 = nI 0) (v2 : IC' 45 6 = nI 0) (v3 : IC' 45 7 = nI 0) (v4 : IC' 42 3 = nI 0) (v5 : IC' 60 5 = nI 0) (v6 : IC' 1 1 = nI 0) (v7 : IM' 0 2 = nI 0) (v8 : IM' 17 25 = nI 0) (v9 : IM' 0 39 = nI 0) (v10 : IM' 0 30 = nI 0) (v11 : IM' 0 43 = nI 0) (A : am_ag sBt IC IC') (B : am_ag sMt IM IM') (so : SO IC') : ReL al IC' LC IM' LM' := by
  obtain ⟨h1, hl, h3, h4, h5, h6, h7, h8, h9, h10⟩ := id hD
  obtain ⟨t1, t2, t3, t4, t5, t6⟩ := hT
  have b4 := hl.1
  have hs5 : ∃ σ, σ ≤ 40 ∧ IC' 45 5 = nI σ := by
    obtain ⟨p1, p2, p3, σ, p4, p5, p6⟩ := id h9
    exact ⟨σ, p4, (A 45 5 rfl).trans p5⟩
  obtain ⟨σ, p4, p5⟩ := hs5
  refine ⟨0, c, W, q, g', 0, K, fun _ => 0, fun _ => 0, 0, g', 0, fun _ => 0, fun _ _ => 0, ⟨by omega, v6, v7, (funext (fun j => A 2 j rfl)).trans t4, (funext (fun j => B 1 j rfl)).trans t5, fun j hj => by omega⟩, ⟨w1, hl, w4, CL_eq hl h4 (A 29 5 rfl) (A 29 6 rfl) (funext (fun j => A 31 j rfl)) (funext (fun j => A 32 j rfl)) (funext (fun j => A 33 j rfl)) (funext (fun j => A 34 j rfl)) (funext (fun j => A 35 j rfl)), w5, w6, ⟨?_, ?_, fun l e => ?_⟩, ⟨Nat.zero_le _, fun i hi => absurd hi (Nat.not_lt_zero _), fun i hi => absurd hi (Nat.not_lt_zero _), Nat.zero_le _, fun _ => Nat.zero_le _⟩, ⟨v2, v4, fun t _ h2 => absurd h2 (Nat.not_lt_zero _), σ, p4, p5, fun i hi => absurd hi (Nat.not_lt_zero _)⟩, ⟨v10, fun i hi => absurd hi (Nat.not_lt_zero _), v8, fun t ht => absurd ht (Nat.not_lt_zero _)⟩⟩, ⟨⟨by omega, fun z => by omega⟩, ⟨v3, fun z => by omega⟩, ⟨v11, fun z => by omega⟩⟩, ⟨⟨Nat.zero_le _, fun j hj => absurd hj (Nat.not_lt_zero _)⟩, ⟨v5, fun j hj => absurd hj (Nat.not_lt_zero _), fun j hj => absurd hj (Nat.not_lt_zero _)⟩, ⟨v9, fun j hj => absurd hj (Nat.not_lt_zero _), fun j hj => absurd hj (Nat.not_lt_zero _)⟩⟩, so, Or.inr ⟨w7, so, Or.inl v1⟩, fun _ => v1⟩
  · exact (B 0 13 rfl).trans h7.1
  · exact (B 0 28 rfl).trans h7.2.1
  · exact MLaw_of (h7.2.2 l e) (fun k j z => B k j (cd_mt (by omega) z))
theorem R_t1a {al : Bool} {IC : am_I} {LC : am_L} {IM : am_I} {IC' IM' : am_I} {LM' : am_L} {n : Nat} {c : Nat → Int32} {W : Nat → (Nat → Nat) → Int32} {q : Nat → Nat} {g : Nat → Nat → Nat} {a : Nat} {K : Nat → Nat → Nat → Nat} {kw l : Nat → Nat} {b : Nat} {s : Nat → Nat → Nat} {w : Nat} {e : Nat → Nat} {x : Nat → Nat → Nat} (hT : TP IC IM n c) (hD : DY IC LC IM W q g a K kw l) (i1 : GI g b s w e) (i2 : CI IC LC (g 0 0) b s w e) (i3 : MI IM (g 0 0) b s w e) (x1 : GX x) (x2 : CX IC x) (x3 : MX IM x) (so : SO IC) (hR : g 0 0 = 0 ∨ rDu IC g) (hA : al = false → IC 51 8 = nI 0) (A : am_ag scrC IC IC') (B : am_ag sM1 IM IM') (hM : ML IM' W q) (h2 : IM' 0 2 = IM 0 2) : ReL al IC' LC IM' LM' := by
  obtain ⟨h1, hl, h3, h4, h5, h6, h7, h8, h9, h10⟩ := id hD
  exact ⟨n, c, W, q, g, a, K, kw, l, b, s, w, e, x, TP_eq hT (A 1 1 rfl) (funext (fun j => A 2 j rfl)) h2 (funext (fun j => B 1 j rfl)), ⟨h1, hl, CS_eq h3 (funext (fun j => A 3 j rfl)) (funext (fun j => A 4 j rfl)) (funext (fun j => A 5 j rfl)) (funext (fun j => A 6 j rfl)) (funext (fun j => A 7 j rfl)) (funext (fun j => A 8 j rfl)) (funext (fun j => A 9 j rfl)) (funext (fun j => A 10 j rfl)) (funext (fun j => A 11 j rfl)) (funext (fun j => A 12 j rfl)) (funext (fun j => A 13 j rfl)) (funext (fun j => A 40 j rfl)) (funext (fun j => A 41 j rfl)) (A 39 4 rfl) (A 39 5 rfl), CL_eq hl h4 (A 29 5 rfl) (A 29 6 rfl) (funext (fun j => A 31 j rfl)) (funext (fun j => A 32 j rfl)) (funext (fun j => A 33 j rfl)) (funext (fun j => A 34 j rfl)) (funext (fun j => A 35 j rfl)), CH_eq h5 (A 39 6 rfl), MS_eq h6 (B 0 25 rfl) (B 0 26 rfl) (funext (fun j => B 14 j rfl)) (funext (fun j => B 15 j rfl)) (funext (fun j => B 16 j rfl)) (funext (fun j => B 17 j rfl)), hM, h8, CP_eq h9 h8.1 (A 45 5 rfl) (A 45 6 rfl) (A 42 3 rfl) (funext (fun j => A 43 j rfl)) (fun j _ => ⟨A 48 j rfl, A 49 j rfl, A 50 j rfl, rfl, rfl⟩), MP_eq h10 (B 0 30 rfl) (funext (fun j => B 18 j rfl)) (fun j _ => B 17 j rfl)⟩, ⟨i1, CI_eq i2 (A 45 7 rfl) (A 48 40 rfl) (A 49 40 rfl) (A 42 2 rfl) (funext (fun j => A 44 j rfl)) rfl rfl, MI_eq i3 (B 0 43 rfl) (funext (fun j => B 25 j rfl))⟩, ⟨x1, CX_eq x2 (A 60 5 rfl) (funext (fun j => A 61 j rfl)) (funext (fun j => A 62 j rfl)), MX_eq x3 (B 0 39 rfl) (funext (fun j => B 21 j rfl)) (funext (fun j => B 22 j rfl))⟩, SO_ne so (funext (fun j => A 54 j rfl)), rDu_eq hR (funext (fun j => A 52 j rfl)) (funext (fun j => A 53 j rfl)) (funext (fun j => A 54 j rfl)) (funext (fun j => A 55 j rfl)) (funext (fun j => A 67 j rfl)) (A 51 8 rfl) (A 51 9 rfl) (A 51 10 rfl) (A 51 11 rfl), fun z => (A 51 8 rfl).trans (hA z)⟩
