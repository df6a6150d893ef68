/-! THE LAW'S OWN WALK: the class's cells, the model's cells, the row 'out'; the numbers 500000, 500001, 500002 stand for the law's x, m, out, 1000020 for the script -/
def am_wl (G : am_G) (aC aM : Nat → Nat) (q : Nat) (al : Bool) (IC : am_I) (LC : am_L) (IM : am_I) (LM : am_L) (o : Int64) : va_W := am_ws G aC (KC al) (RC al) IC LC ++ (am_ws G aM KM RM IM LM ++ [(q, .inl (G.2.1, 1, .inr (.inl (fun _ => o))))])
def am_JL (x : am_X) (Q : State → Prop) (pc : Nat) (lv : List (Option Value)) (st : List Value) (al : Bool) (IC : am_I) (LC : am_L) (IM : am_I) (LM : am_L) (o : Int64) (nc ns : Nat) : Prop := match x with
  | (p, l, e, Rm, s, m, args, below, meth, c, D, G, A, a0, k0, _, _) => ∀ (a aC aM : Nat → Nat) (H : Heap) (ls : Array Slot) (locs : List Loc), ((∀ k, k0 k → a k = a0 k) ∧ (∀ k, k0 k → aC k = a0 k) ∧ (∀ k, k0 k → aM k = a0 k) ∧ aC 0 = a 500000 ∧ aM 0 = a 500001) →
      va_P D vwCl (am_wl G aC aM (a 500002) al IC LC IM LM o) H → va_D A (am_wl G aC aM (a 500002) al IC LC IM LM o) → va_S A s.heap H locs → am_has ls c.maxLocals a lv →
      W p l e Rm s m args below meth c H locs nc ns Q (F0 m pc ls (st.map (am_v a)))
theorem am_comm {D : va_G} {cl : List vw_C} {H : Heap} {w1 w2 : va_W} (h : va_P D cl (w1 ++ w2) H) : va_P D cl (w2 ++ w1) H := by
  intro k q hk
  rcases List.mem_append.mp (List.mem_of_getElem? hk) with h1 | h1
  · obtain ⟨i, hi⟩ := List.getElem?_of_mem (List.mem_append_right w1 h1)
    exact h i q hi
  · obtain ⟨i, hi⟩ := List.getElem?_of_mem (List.mem_append_left w2 h1)
    exact h i q hi
theorem am_Dl {A : Nat → Prop} {w1 w2 : va_W} (h : va_D A (w1 ++ w2)) : va_D A w1 := by
  have e : ∀ (k : Nat) (q : Nat × va_E), w1[k]? = some q → (w1 ++ w2)[k]? = some q := fun k q hk => by rw [List.getElem?_append_left (List.getElem?_eq_some_iff.mp hk).1]; exact hk
  exact ⟨fun i j p q hi hj => h.1 i j p q (e i p hi) (e j q hj), fun k q hk => h.2 k q (e k q hk)⟩
theorem am_Dr {A : Nat → Prop} {w1 w2 : va_W} (h : va_D A (w1 ++ w2)) : va_D A w2 := by
  have e : ∀ (k : Nat) (q : Nat × va_E), w2[k]? = some q → (w1 ++ w2)[w1.length + k]? = some q := fun k q hk => by rw [List.getElem?_append_right (by omega), Nat.add_sub_cancel_left]; exact hk
  exact ⟨fun i j p q hi hj hpq => by have := h.1 _ _ p q (e i p hi) (e j q hj) hpq; omega, fun k q hk => h.2 _ q (e k q hk)⟩
theorem am_Dx {A : Nat → Prop} {w1 w2 : va_W} (h : va_D A (w1 ++ w2)) : ∀ (i j : Nat) (p q : Nat × va_E), w1[i]? = some p → w2[j]? = some q → p.1 ≠ q.1 := by
  intro i j p q hi hj hpq
  have hl := (List.getElem?_eq_some_iff.mp hi).1
  have := h.1 i (w1.length + j) p q (by rw [List.getElem?_append_left hl]; exact hi) (by rw [List.getElem?_append_right (by omega), Nat.add_sub_cancel_left]; exact hj) hpq
  omega
theorem am_Dc {A : Nat → Prop} {w1 w2 : va_W} (h : va_D A (w1 ++ w2)) : va_D A (w2 ++ w1) := (am_Dr h).app (am_Dl h) (fun i j p q hi hj e => am_Dx h j i q p hj hi e.symm)
theorem am_Pl {D : va_G} {cl : List vw_C} {H : Heap} {w1 w2 : va_W} (h : va_P D cl (w1 ++ w2) H) : va_P D cl w1 H := fun k q hk => h k q (by rw [List.getElem?_append_left (List.getElem?_eq_some_iff.mp hk).1]; exact hk)
/-- behind a call of one that knows w1 alone: the rest is as it was -/
theorem am_join {A0 : Nat → Prop} {D : va_G} {cl : List vw_C} {w1 w1' w2 : va_W} {H H1 : Heap} (hP : va_P D cl (w1 ++ w2) H) (hD : va_D A0 (w1 ++ w2)) (hk : ∀ q : Nat, q < H.size → ¬ va_A w1 H.size q → H1[q]? = H[q]?) (hF : ∀ q, va_A w1 H.size q → A0 q) (hP1 : va_P D cl w1' H1) (hD1 : va_D (va_A w1 H.size) w1') : va_P D cl (w1' ++ w2) H1 ∧ va_D A0 (w1' ++ w2) := by
  have hP2 : va_P D cl w2 H := am_Pl (am_comm hP)
  have ap : ∀ (k : Nat) (q : Nat × va_E), w2[k]? = some q → q.1 < H.size ∧ ¬ va_A w1 H.size q.1 := by
    intro k q hq
    have hl := (hP2 k q hq).lt
    refine ⟨hl, fun h => ?_⟩
    rcases h with ⟨i, e, h⟩ | h
    · exact am_Dx hD i k (q.1, e) q h hq rfl
    · omega
  exact ⟨va_P.app hP1 (fun k q hq => (hP2 k q hq).kept (hk q.1 (ap k q hq).1 (ap k q hq).2)), (hD1.weaken (fun k q _ h => hF q.1 h)).app (am_Dr hD) (fun i j p q hi hj e => (ap j q hj).2 (by rw [← e]; exact hD1.2 i p hi))⟩
section AML
variable {x : am_X} {Q : State → Prop} {cc : ByteArray} {y : MethodName} {nL : Nat} {ret : Option FieldType} {dd mc ms pc : Nat} {lv : List (Option Value)} {st : List Value} {al : Bool} {IC : am_I} {LC : am_L} {IM : am_I} {LM : am_L} {o : Int64} {nc ns : Nat} {β : Type} {z : Option β}
theorem l_iconst (hc : am_ok x cc y nL ret dd mc ms) {n : Int} {v : Int32} (hd : decode cc pc = .ok (.iconst n, 1)) (hv : Int32.ofInt n = v) (k : am_JL x Q (pc + 1) lv (.int v :: st) al IC LC IM LM o nc ns) : am_JL x Q (pc) lv (st) al IC LC IM LM o nc ns := by
  obtain ⟨p, l, e, Rm, s, m, args, below, meth, c, D, G, A, a0, k0, mc9, ms9⟩ := x
  obtain ⟨hx, hb, hown, hts, hr, hlocks, hK, hA, hfr, hlo, hm, hml, hnm, hE, hk9⟩ := hc
  intro a aC aM H ls locs h1 hP hD hS hl
  exact lv_iconst hx hb hd hv (k a aC aM H ls locs h1 hP hD hS hl)
theorem l_bipush (hc : am_ok x cc y nL ret dd mc ms) {n : Int} {v : Int32} (hd : decode cc pc = .ok (.bipush n, 2)) (hv : (Int8.ofInt n).toInt32 = v) (k : am_JL x Q (pc + 2) lv (.int v :: st) al IC LC IM LM o nc ns) : am_JL x Q (pc) lv (st) al IC LC IM LM o nc ns := by
  obtain ⟨p, l, e, Rm, s, m, args, below, meth, c, D, G, A, a0, k0, mc9, ms9⟩ := x
  obtain ⟨hx, hb, hown, hts, hr, hlocks, hK, hA, hfr, hlo, hm, hml, hnm, hE, hk9⟩ := hc
  intro a aC aM H ls locs h1 hP hD hS hl
  exact lv_bipush hx hb hd hv (k a aC aM H ls locs h1 hP hD hS hl)
theorem l_ldc2 (hc : am_ok x cc y nL ret dd mc ms) {i : Nat} {v : Int64} (hd : decode cc pc = .ok (.ldc2_w i, 3)) (hw : Cond.constantLong y.cls i v ∈ am_gd) (k : am_JL x Q (pc + 3) lv (.long v :: st) al IC LC IM LM o nc ns) : am_JL x Q (pc) lv (st) al IC LC IM LM o nc ns := by
  obtain ⟨p, l, e, Rm, s, m, args, below, meth, c, D, G, A, a0, k0, mc9, ms9⟩ := x
  obtain ⟨hx, hb, hown, hts, hr, hlocks, hK, hA, hfr, hlo, hm, hml, hnm, hE, hk9⟩ := hc
  intro a aC aM H ls locs h1 hP hD hS hl
  exact lv_ldc2 hx hb hown (hts _ hw) hd (k a aC aM H ls locs h1 hP hD hS hl)
theorem l_iload (hc : am_ok x cc y nL ret dd mc ms) {i : Nat} {v : Int32} (hd : decode cc pc = .ok (.iload i, 2)) (hq : lv[i]? = some (some (.int v))) (k : am_JL x Q (pc + 2) lv (.int v :: st) al IC LC IM LM o nc ns) : am_JL x Q (pc) lv (st) al IC LC IM LM o nc ns := by
  obtain ⟨p, l, e, Rm, s, m, args, below, meth, c, D, G, A, a0, k0, mc9, ms9⟩ := x
  obtain ⟨hx, hb, hown, hts, hr, hlocks, hK, hA, hfr, hlo, hm, hml, hnm, hE, hk9⟩ := hc
  intro a aC aM H ls locs h1 hP hD hS hl
  exact lv_iload hx hb hd (hl.2.2 _ _ hq) (k a aC aM H ls locs h1 hP hD hS hl)
theorem l_aload_n (hc : am_ok x cc y nL ret dd mc ms) {i : Fin 4} {v : Nat} (hd : decode cc pc = .ok (.aload_n i, 1)) (hq : lv[(i : Nat)]? = some (some (.ref v))) (k : am_JL x Q (pc + 1) lv (.ref v :: st) al IC LC IM LM o nc ns) : am_JL x Q (pc) lv (st) al IC LC IM LM o nc ns := by
  obtain ⟨p, l, e, Rm, s, m, args, below, meth, c, D, G, A, a0, k0, mc9, ms9⟩ := x
  obtain ⟨hx, hb, hown, hts, hr, hlocks, hK, hA, hfr, hlo, hm, hml, hnm, hE, hk9⟩ := hc
  intro a aC aM H ls locs h1 hP hD hS hl
  exact lv_aload_n hx hb hd rfl (hl.2.2 _ _ hq) (k a aC aM H ls locs h1 hP hD hS hl)
theorem l_iadd (hc : am_ok x cc y nL ret dd mc ms) {u v : Int32} (hd : decode cc pc = .ok (.iadd, 1)) (k : am_JL x Q (pc + 1) lv (.int (u + v) :: st) al IC LC IM LM o nc ns) : am_JL x Q (pc) lv (.int v :: .int u :: st) al IC LC IM LM o nc ns := by
  obtain ⟨p, l, e, Rm, s, m, args, below, meth, c, D, G, A, a0, k0, mc9, ms9⟩ := x
  obtain ⟨hx, hb, hown, hts, hr, hlocks, hK, hA, hfr, hlo, hm, hml, hnm, hE, hk9⟩ := hc
  intro a aC aM H ls locs h1 hP hD hS hl
  exact lv_iadd hx hb hd  (k a aC aM H ls locs h1 hP hD hS hl)
theorem l_isub (hc : am_ok x cc y nL ret dd mc ms) {u v : Int32} (hd : decode cc pc = .ok (.isub, 1)) (k : am_JL x Q (pc + 1) lv (.int (u - v) :: st) al IC LC IM LM o nc ns) : am_JL x Q (pc) lv (.int v :: .int u :: st) al IC LC IM LM o nc ns := by
  obtain ⟨p, l, e, Rm, s, m, args, below, meth, c, D, G, A, a0, k0, mc9, ms9⟩ := x
  obtain ⟨hx, hb, hown, hts, hr, hlocks, hK, hA, hfr, hlo, hm, hml, hnm, hE, hk9⟩ := hc
  intro a aC aM H ls locs h1 hP hD hS hl
  exact lv_isub hx hb hd  (k a aC aM H ls locs h1 hP hD hS hl)
theorem l_iand (hc : am_ok x cc y nL ret dd mc ms) {u v : Int32} (hd : decode cc pc = .ok (.iand, 1)) (k : am_JL x Q (pc + 1) lv (.int (u &&& v) :: st) al IC LC IM LM o nc ns) : am_JL x Q (pc) lv (.int v :: .int u :: st) al IC LC IM LM o nc ns := by
  obtain ⟨p, l, e, Rm, s, m, args, below, meth, c, D, G, A, a0, k0, mc9, ms9⟩ := x
  obtain ⟨hx, hb, hown, hts, hr, hlocks, hK, hA, hfr, hlo, hm, hml, hnm, hE, hk9⟩ := hc
  intro a aC aM H ls locs h1 hP hD hS hl
  exact lv_iand hx hb hd  (k a aC aM H ls locs h1 hP hD hS hl)
theorem l_land (hc : am_ok x cc y nL ret dd mc ms) {u v : Int64} (hd : decode cc pc = .ok (.land, 1)) (k : am_JL x Q (pc + 1) lv (.long (u &&& v) :: st) al IC LC IM LM o nc ns) : am_JL x Q (pc) lv (.long v :: .long u :: st) al IC LC IM LM o nc ns := by
  obtain ⟨p, l, e, Rm, s, m, args, below, meth, c, D, G, A, a0, k0, mc9, ms9⟩ := x
  obtain ⟨hx, hb, hown, hts, hr, hlocks, hK, hA, hfr, hlo, hm, hml, hnm, hE, hk9⟩ := hc
  intro a aC aM H ls locs h1 hP hD hS hl
  exact lv_land hx hb hd  (k a aC aM H ls locs h1 hP hD hS hl)
theorem l_lor (hc : am_ok x cc y nL ret dd mc ms) {u v : Int64} (hd : decode cc pc = .ok (.lor, 1)) (k : am_JL x Q (pc + 1) lv (.long (u ||| v) :: st) al IC LC IM LM o nc ns) : am_JL x Q (pc) lv (.long v :: .long u :: st) al IC LC IM LM o nc ns := by
  obtain ⟨p, l, e, Rm, s, m, args, below, meth, c, D, G, A, a0, k0, mc9, ms9⟩ := x
  obtain ⟨hx, hb, hown, hts, hr, hlocks, hK, hA, hfr, hlo, hm, hml, hnm, hE, hk9⟩ := hc
  intro a aC aM H ls locs h1 hP hD hS hl
  exact lv_lor hx hb hd  (k a aC aM H ls locs h1 hP hD hS hl)
theorem l_lshl (hc : am_ok x cc y nL ret dd mc ms) {u : Int64} {v : Int32} (hd : decode cc pc = .ok (.lshl, 1)) (k : am_JL x Q (pc + 1) lv (.long (u <<< (v.toInt64 &&& 63)) :: st) al IC LC IM LM o nc ns) : am_JL x Q (pc) lv (.int v :: .long u :: st) al IC LC IM LM o nc ns := by
  obtain ⟨p, l, e, Rm, s, m, args, below, meth, c, D, G, A, a0, k0, mc9, ms9⟩ := x
  obtain ⟨hx, hb, hown, hts, hr, hlocks, hK, hA, hfr, hlo, hm, hml, hnm, hE, hk9⟩ := hc
  intro a aC aM H ls locs h1 hP hD hS hl
  exact lv_lshl hx hb hd rfl (k a aC aM H ls locs h1 hP hD hS hl)
theorem l_i2l (hc : am_ok x cc y nL ret dd mc ms) {u : Int32} (hd : decode cc pc = .ok (.i2l, 1)) (k : am_JL x Q (pc + 1) lv (.long u.toInt64 :: st) al IC LC IM LM o nc ns) : am_JL x Q (pc) lv (.int u :: st) al IC LC IM LM o nc ns := by
  obtain ⟨p, l, e, Rm, s, m, args, below, meth, c, D, G, A, a0, k0, mc9, ms9⟩ := x
  obtain ⟨hx, hb, hown, hts, hr, hlocks, hK, hA, hfr, hlo, hm, hml, hnm, hE, hk9⟩ := hc
  intro a aC aM H ls locs h1 hP hD hS hl
  exact lv_i2l hx hb hd rfl (k a aC aM H ls locs h1 hP hD hS hl)
theorem l_lcmp (hc : am_ok x cc y nL ret dd mc ms) {u v : Int64} (hd : decode cc pc = .ok (.lcmp, 1)) (k : am_JL x Q (pc + 1) lv (.int (lg_cmp u v) :: st) al IC LC IM LM o nc ns) : am_JL x Q (pc) lv (.long v :: .long u :: st) al IC LC IM LM o nc ns := by
  obtain ⟨p, l, e, Rm, s, m, args, below, meth, c, D, G, A, a0, k0, mc9, ms9⟩ := x
  obtain ⟨hx, hb, hown, hts, hr, hlocks, hK, hA, hfr, hlo, hm, hml, hnm, hE, hk9⟩ := hc
  intro a aC aM H ls locs h1 hP hD hS hl
  exact W.lcmp hx hb hd (k a aC aM H ls locs h1 hP hD hS hl)
theorem l_goto (hc : am_ok x cc y nL ret dd mc ms) {off : Int} {tgt : Nat} (hd : decode cc pc = .ok (.goto off, 3)) (ht : (pc : Int) + off = (tgt : Int)) (k : am_JL x Q (tgt) lv (st) al IC LC IM LM o nc ns) : am_JL x Q (pc) lv (st) al IC LC IM LM o nc ns := by
  obtain ⟨p, l, e, Rm, s, m, args, below, meth, c, D, G, A, a0, k0, mc9, ms9⟩ := x
  obtain ⟨hx, hb, hown, hts, hr, hlocks, hK, hA, hfr, hlo, hm, hml, hnm, hE, hk9⟩ := hc
  intro a aC aM H ls locs h1 hP hD hS hl
  exact lv_goto hx hb hd ht (k a aC aM H ls locs h1 hP hD hS hl)
theorem l_icmp_eq (hc : am_ok x cc y nL ret dd mc ms) {u v : Int32} {off : Int} {tgt : Nat} (hd : decode cc pc = .ok (.if_icmp .eq off, 3)) (ht : (pc : Int) + off = (tgt : Int)) (kt : u = v → am_JL x Q tgt lv st al IC LC IM LM o nc ns) (kf : ¬ u = v → am_JL x Q (pc + 3) lv st al IC LC IM LM o nc ns) : am_JL x Q pc lv (.int v :: .int u :: st) al IC LC IM LM o nc ns := by
  obtain ⟨p, l, e, Rm, s, m, args, below, meth, c, D, G, A, a0, k0, mc9, ms9⟩ := x
  obtain ⟨hx, hb, -⟩ := hc
  intro a aC aM H ls locs h1 hP hD hS hl
  exact lv_icmp_eq hx hb hd ht (fun q => kt q a aC aM H ls locs h1 hP hD hS hl) (fun q => kf q a aC aM H ls locs h1 hP hD hS hl)
theorem l_icmp_gt (hc : am_ok x cc y nL ret dd mc ms) {u v : Int32} {off : Int} {tgt : Nat} (hd : decode cc pc = .ok (.if_icmp .gt off, 3)) (ht : (pc : Int) + off = (tgt : Int)) (kt : v < u → am_JL x Q tgt lv st al IC LC IM LM o nc ns) (kf : ¬ v < u → am_JL x Q (pc + 3) lv st al IC LC IM LM o nc ns) : am_JL x Q pc lv (.int v :: .int u :: st) al IC LC IM LM o nc ns := by
  obtain ⟨p, l, e, Rm, s, m, args, below, meth, c, D, G, A, a0, k0, mc9, ms9⟩ := x
  obtain ⟨hx, hb, -⟩ := hc
  intro a aC aM H ls locs h1 hP hD hS hl
  exact lv_icmp_gt hx hb hd ht (fun q => kt q a aC aM H ls locs h1 hP hD hS hl) (fun q => kf q a aC aM H ls locs h1 hP hD hS hl)
theorem l_if_ne (hc : am_ok x cc y nL ret dd mc ms) {u : Int32} {off : Int} {tgt : Nat} (hd : decode cc pc = .ok (.ifCond .ne off, 3)) (ht : (pc : Int) + off = (tgt : Int)) (kt : ¬ u = 0 → am_JL x Q tgt lv st al IC LC IM LM o nc ns) (kf : u = 0 → am_JL x Q (pc + 3) lv st al IC LC IM LM o nc ns) : am_JL x Q pc lv (.int u :: st) al IC LC IM LM o nc ns := by
  obtain ⟨p, l, e, Rm, s, m, args, below, meth, c, D, G, A, a0, k0, mc9, ms9⟩ := x
  obtain ⟨hx, hb, -⟩ := hc
  intro a aC aM H ls locs h1 hP hD hS hl
  exact lv_if_ne hx hb hd ht (fun q => kt q a aC aM H ls locs h1 hP hD hS hl) (fun q => kf q a aC aM H ls locs h1 hP hD hS hl)
theorem l_if_eq (hc : am_ok x cc y nL ret dd mc ms) {u : Int32} {off : Int} {tgt : Nat} (hd : decode cc pc = .ok (.ifCond .eq off, 3)) (ht : (pc : Int) + off = (tgt : Int)) (kt : u = 0 → am_JL x Q tgt lv st al IC LC IM LM o nc ns) (kf : ¬ u = 0 → am_JL x Q (pc + 3) lv st al IC LC IM LM o nc ns) : am_JL x Q pc lv (.int u :: st) al IC LC IM LM o nc ns := by
  obtain ⟨p, l, e, Rm, s, m, args, below, meth, c, D, G, A, a0, k0, mc9, ms9⟩ := x
  obtain ⟨hx, hb, -⟩ := hc
  intro a aC aM H ls locs h1 hP hD hS hl
  exact lv_if_eq hx hb hd ht (fun q => kt q a aC aM H ls locs h1 hP hD hS hl) (fun q => kf q a aC aM H ls locs h1 hP hD hS hl)
theorem l_istore (hc : am_ok x cc y nL ret dd mc ms) {i : Nat} {v : Int32} (hd : decode cc pc = .ok (.istore i, 2)) (hn : i < nL) (k : am_JL x Q (pc + 2) (am_s1 lv i (.int v)) st al IC LC IM LM o nc ns) : am_JL x Q pc lv (.int v :: st) al IC LC IM LM o nc ns := by
  obtain ⟨p, l, e, Rm, s, m, args, below, meth, c, D, G, A, a0, k0, mc9, ms9⟩ := x
  obtain ⟨hx, hb, hown, hts, hr, hlocks, hK, hA, hfr, hlo, hm, hml, hnm, hE, hk9⟩ := hc
  intro a aC aM H ls locs h1 hP hD hS hl
  exact lv_istore hx hb hd (am_has_lv hl) (by rw [hml]; exact hn) rfl (fun ls hl => k a aC aM H ls locs h1 hP hD hS (am_has_s1 (v := .int v) rfl hl))
theorem l_iinc (hc : am_ok x cc y nL ret dd mc ms) {i : Nat} {n : Int} {u w : Int32} (hd : decode cc pc = .ok (.iinc i n, 3)) (hq : lv[i]? = some (some (.int u))) (hw : Int32.ofInt n = w) (hn : i < nL) (k : am_JL x Q (pc + 3) (am_s1 lv i (.int (u + w))) st al IC LC IM LM o nc ns) : am_JL x Q pc lv st al IC LC IM LM o nc ns := by
  obtain ⟨p, l, e, Rm, s, m, args, below, meth, c, D, G, A, a0, k0, mc9, ms9⟩ := x
  obtain ⟨hx, hb, hown, hts, hr, hlocks, hK, hA, hfr, hlo, hm, hml, hnm, hE, hk9⟩ := hc
  intro a aC aM H ls locs h1 hP hD hS hl
  obtain ⟨q, hq2⟩ := List.getElem?_of_mem ((am_pr_mem a lv 0 (i, .int u)).mpr ⟨i, .int u, hq, by simp [am_v]⟩)
  exact lv_iinc (k := q) (v := u + w) hx hb hd (am_has_lv hl) hq2 (by rw [hw]) (by rw [hml]; exact hn) rfl (fun ls hl => k a aC aM H ls locs h1 hP hD hS (am_has_s1 (v := .int (u + w)) rfl hl))
theorem l_sub {lv' : List (Option Value)} (k : am_JL x Q pc lv' st al IC LC IM LM o nc ns) (h : am_le lv lv') : am_JL x Q pc lv st al IC LC IM LM o nc ns := by
  obtain ⟨p, l, e, Rm, s, m, args, below, meth, c, D, G, A, a0, k0, mc9, ms9⟩ := x
  intro a aC aM H ls locs h1 hP hD hS hl
  exact k a aC aM H ls locs h1 hP hD hS (am_has_le h hl)
theorem l_widen {nc' ns' : Nat} (h1 : nc ≤ nc') (h2 : ns ≤ ns') (k : am_JL x Q pc lv st al IC LC IM LM o nc' ns') : am_JL x Q pc lv st al IC LC IM LM o nc ns := by
  obtain ⟨p, l, e, Rm, s, m, args, below, meth, c, D, G, A, a0, k0, mc9, ms9⟩ := x
  intro a aC aM H ls locs g1 hP hD hS hl
  exact W.widen h1 h2 (k a aC aM H ls locs g1 hP hD hS hl)
/-- the script: L ints xs at the cell 1000020 -/
def am_sc (x : am_X) (L : Nat) (xs : Nat → Int32) : Prop := match x with
  | (_, _, _, _, s, _, _, _, _, _, _, _, A, a0, _, _, _) => va_X (a0 1000020) L xs s s.heap ∧ a0 1000020 < s.heap.size ∧ ¬ A (a0 1000020)
theorem l_sld (hc : am_ok x cc y nL ret dd mc ms) {L : Nat} {xs : Nat → Int32} (hX : am_sc x L xs) {i : Int32} (hd : decode cc pc = .ok (.iaload, 1)) (hin : vp_in i L) (k : am_JL x Q (pc + 1) lv (.int (xs i.toNatClampNeg) :: st) al IC LC IM LM o nc ns) : am_JL x Q pc lv (.int i :: .ref 1000020 :: st) al IC LC IM LM o nc ns := by
  obtain ⟨p, l, e, Rm, s, m, args, below, meth, c, D, G, A, a0, k0, mc9, ms9⟩ := x
  obtain ⟨hx, hb, hown, hts, hr, hlocks, hK, hA, hfr, hlo, hm, hml, hnm, hE, hk9⟩ := hc
  intro a aC aM H ls locs h1 hP hD hS hl
  have ea : a 1000020 = a0 1000020 := h1.1 _ (hk9 _ (by decide))
  show W _ _ _ _ _ _ _ _ _ _ _ _ _ _ _ (F0 m pc ls (.int i :: .ref (a 1000020) :: st.map (am_v a)))
  rw [ea]
  exact va_sld hx hb hX.1 hX.2.1 hX.2.2 hS hin hd (k a aC aM H ls locs h1 hP hD hS hl)
theorem l_slen (hc : am_ok x cc y nL ret dd mc ms) {L : Nat} {xs : Nat → Int32} (hX : am_sc x L xs) (hd : decode cc pc = .ok (.arraylength, 1)) (k : am_JL x Q (pc + 1) lv (.int (nI L) :: st) al IC LC IM LM o nc ns) : am_JL x Q pc lv (.ref 1000020 :: st) al IC LC IM LM o nc ns := by
  obtain ⟨p, l, e, Rm, s, m, args, below, meth, c, D, G, A, a0, k0, mc9, ms9⟩ := x
  obtain ⟨hx, hb, hown, hts, hr, hlocks, hK, hA, hfr, hlo, hm, hml, hnm, hE, hk9⟩ := hc
  intro a aC aM H ls locs h1 hP hD hS hl
  have ea : a 1000020 = a0 1000020 := h1.1 _ (hk9 _ (by decide))
  show W _ _ _ _ _ _ _ _ _ _ _ _ _ _ _ (F0 m pc ls (.ref (a 1000020) :: st.map (am_v a)))
  rw [ea]
  exact va_slen hx hb hX.1 hX.2.1 hX.2.2 hS hd (k a aC aM H ls locs h1 hP hD hS hl)
theorem l_oald (hc : am_ok x cc y nL ret dd mc ms) (hd : decode cc pc = .ok (.laload, 1)) (k : am_JL x Q (pc + 1) lv (.long o :: st) al IC LC IM LM o nc ns) : am_JL x Q pc lv (.int 0 :: .ref 500002 :: st) al IC LC IM LM o nc ns := by
  obtain ⟨p, l, e, Rm, s, m, args, below, meth, c, D, G, A, a0, k0, mc9, ms9⟩ := x
  obtain ⟨hx, hb, hown, hts, hr, hlocks, hK, hA, hfr, hlo, hm, hml, hnm, hE, hk9⟩ := hc
  intro a aC aM H ls locs h1 hP hD hS hl
  have hP2 : va_P D vwCl [(a 500002, .inl (G.2.1, 1, .inr (.inl (fun _ => o))))] H := am_Pl (am_comm (am_Pl (am_comm hP)))
  exact va_lald hx hb hK hP2 0 1 rfl rfl (vp_in_nI (n := 0) (N := 1) (by decide) (by decide)) hd (k a aC aM H ls locs h1 hP hD hS hl)
/-- values without references -/
def am_pl (v : Value) : Bool := match v with
  | .int _ => true
  | .long _ => true
  | _ => false
theorem am_pl_v {a : Nat → Nat} {v : Value} (h : am_pl v = true) : am_v a v = v := by cases v <;> first | rfl | cases h
theorem am_pl_l {a : Nat → Nat} : ∀ {l : List Value}, l.all am_pl = true → l.map (am_v a) = l
  | [], _ => rfl
  | v :: l, h => by
    simp only [List.all_cons, Bool.and_eq_true] at h
    simp only [List.map_cons, am_pl_v h.1, am_pl_l h.2]
theorem l_callC (hc : am_ok x cc y nL ret dd mc ms) {y' : MethodName} {cc' : ByteArray} {n' : Nat} {ret' : Option FieldType} {d' i : Nat} {As st0 : List Value} {ci N : Nat} {T : u_T} {ts : List Nat} {v : Int32} {I' : am_I} {L' : am_L} (hd : decode cc pc = .ok (.invokevirtual i, 3)) (hw : Cond.methodLink y.cls i y' ∈ am_gd) (hmv : am_mv y' cc' n' ret' As.length) (hk : (KC al)[0]? = some (.inl (ci, ts))) (hcl : vwCl[ci]? = some (y'.cls, T, N)) (hst : As.reverse ++ .ref 500000 :: st = st0) (hpl : As.all am_pl = true) (hdd : d' + 1 ≤ dd) (hn' : n' ≤ 21) (hcat : (st.map fun v => v.category).sum ≤ 8) (hnc : nc ≤ mc ∧ ns ≤ ms)
    (hM : am_C x.2.1 y' cc' n' ret' d' (.ref 0 :: As) (KC al) (RC al) IC LC (some (.int v)) I' L') (k : am_JL x Q (pc + 3) lv (.int v :: st) al I' L' IM LM o nc ns) : am_JL x Q pc lv st0 al IC LC IM LM o nc ns := by
  obtain ⟨p, l, e, Rm, s, m, args, below, meth, c, D, G, A, a0, k0, mc9, ms9⟩ := x
  obtain ⟨hx, hb, hown, hts, hr, hlocks, hK, hA, hfr, hlo, hm, hml, hnm, hE, hk9⟩ := hc
  intro a aC aM H ls locs h1 hP hD hS hl
  obtain ⟨hcd, hin, hsel, hini, hds⟩ := hmv
  have hPs : va_P D vwCl (am_ws G aC (KC al) (RC al) IC LC ++ (am_ws G aM KM RM IM LM ++ [(a 500002, .inl (G.2.1, 1, .inr (.inl (fun _ => o))))])) H := hP
  have hDs : va_D A (am_ws G aC (KC al) (RC al) IC LC ++ (am_ws G aM KM RM IM LM ++ [(a 500002, .inl (G.2.1, 1, .inr (.inl (fun _ => o))))])) := hD
  have hC := hM D G aC H.size
  have hP1 := am_Pl hPs
  have hD1 := am_Dl hDs
  have hFc : ∀ q, va_A (am_ws G aC (KC al) (RC al) IC LC) H.size q → A q := fun q h => h.elim (fun ⟨k, e, h⟩ => hD1.2 k (q, e) h) (fun h => hA q (Nat.le_trans hS.1 h))
  subst hst
  refine am_run (va_runV (n := As.length) (As := As.map (am_v aC)) (rest := st.map (am_v a)) ⟨hx, hb, rfl, hown, hts⟩ hC ⟨callB_of As.length hts (fun w h => ⟨(List.mem_cons.mp h).elim (fun q => q ▸ hcd) (fun q => q), good_of_word ((List.mem_cons.mp h).elim (fun q => q ▸ rfl) (fun q => List.all_eq_true.mp am_good w q))⟩) rfl rfl rfl (hts _ hini) (hts _ hw) hds ⟨by show d' + 1 ≤ _; omega, by show 8 + (n' + 11) + 40 * d' ≤ _; omega⟩, hts _ hin, hts _ hsel⟩ ⟨fun a U g mk q => by obtain ⟨q0, q1, qP, qK, qD, qE⟩ := q; exact ⟨q0, q1, qP, va_K.moved (u := U) (U := U.calling g mk a) (Vm.Alike.refl U.vm) qK, qD, am_E_same (s := U) (U := U.calling g mk a) rfl qE⟩, va_recv hK hP1 (ci := ci) hcl (q0 := 0) (am_ws_at hk), fun U hU hW => ⟨rfl, by rw [hU], by rw [hU]; exact hP1, va_K.moved hW.alike hK, hD1.weaken (fun _ _ _ _ => trivial), by rw [hU]; exact am_E_warm hW (am_E_call hS hFc (am_E_at (fun k q => h1.2.1 k (hk9 k q)) hE))⟩⟩ rfl (by simp) hl.1 (by simp [am_v, am_pl_l hpl, h1.2.2.2.1]) (lv_room (by rw [List.map_map]; simpa [Function.comp_def, am_v_cat] using hcat)) hd ⟨by have := hm.2.2.1; have := hnc.1; omega, by have := hm.2.2.2; have := hnc.2; omega⟩) hS (fun q _ h => hFc q h) hFc (fun a' res9 t H1 locs1 ht hres9 h2 hP2 hD2 hS1 hk1 => ?_)
  subst hres9
  have ea : a' = aC := funext fun k => h2 k trivial
  subst ea
  obtain ⟨hP3, hD3⟩ := am_join hPs hDs hk1 hFc (by rw [← ht]; exact hP2) hD2
  exact k a a' aM H1 ls locs1 h1 hP3 hD3 hS1 hl
theorem l_callM (hc : am_ok x cc y nL ret dd mc ms) {y' : MethodName} {cc' : ByteArray} {n' : Nat} {ret' : Option FieldType} {d' i : Nat} {As st0 : List Value} {ci N : Nat} {T : u_T} {ts : List Nat} {v : Int32} {I' : am_I} {L' : am_L} (hd : decode cc pc = .ok (.invokevirtual i, 3)) (hw : Cond.methodLink y.cls i y' ∈ am_gd) (hmv : am_mv y' cc' n' ret' As.length) (hk : KM[0]? = some (.inl (ci, ts))) (hcl : vwCl[ci]? = some (y'.cls, T, N)) (hst : As.reverse ++ .ref 500001 :: st = st0) (hpl : As.all am_pl = true) (hdd : d' + 1 ≤ dd) (hn' : n' ≤ 21) (hcat : (st.map fun v => v.category).sum ≤ 8) (hnc : nc ≤ mc ∧ ns ≤ ms)
    (hM : am_C x.2.1 y' cc' n' ret' d' (.ref 0 :: As) KM RM IM LM (some (.int v)) I' L') (k : am_JL x Q (pc + 3) lv (.int v :: st) al IC LC I' L' o nc ns) : am_JL x Q pc lv st0 al IC LC IM LM o nc ns := by
  obtain ⟨p, l, e, Rm, s, m, args, below, meth, c, D, G, A, a0, k0, mc9, ms9⟩ := x
  obtain ⟨hx, hb, hown, hts, hr, hlocks, hK, hA, hfr, hlo, hm, hml, hnm, hE, hk9⟩ := hc
  intro a aC aM H ls locs h1 hP hD hS hl
  obtain ⟨hcd, hin, hsel, hini, hds⟩ := hmv
  have hPs : va_P D vwCl (am_ws G aM KM RM IM LM ++ ([(a 500002, .inl (G.2.1, 1, .inr (.inl (fun _ => o))))] ++ am_ws G aC (KC al) (RC al) IC LC)) H := by rw [← List.append_assoc]; exact am_comm hP
  have hDs : va_D A (am_ws G aM KM RM IM LM ++ ([(a 500002, .inl (G.2.1, 1, .inr (.inl (fun _ => o))))] ++ am_ws G aC (KC al) (RC al) IC LC)) := by rw [← List.append_assoc]; exact am_Dc hD
  have hC := hM D G aM H.size
  have hP1 := am_Pl hPs
  have hD1 := am_Dl hDs
  have hFc : ∀ q, va_A (am_ws G aM KM RM IM LM) H.size q → A q := fun q h => h.elim (fun ⟨k, e, h⟩ => hD1.2 k (q, e) h) (fun h => hA q (Nat.le_trans hS.1 h))
  subst hst
  refine am_run (va_runV (n := As.length) (As := As.map (am_v aM)) (rest := st.map (am_v a)) ⟨hx, hb, rfl, hown, hts⟩ hC ⟨callB_of As.length hts (fun w h => ⟨(List.mem_cons.mp h).elim (fun q => q ▸ hcd) (fun q => q), good_of_word ((List.mem_cons.mp h).elim (fun q => q ▸ rfl) (fun q => List.all_eq_true.mp am_good w q))⟩) rfl rfl rfl (hts _ hini) (hts _ hw) hds ⟨by show d' + 1 ≤ _; omega, by show 8 + (n' + 11) + 40 * d' ≤ _; omega⟩, hts _ hin, hts _ hsel⟩ ⟨fun a U g mk q => by obtain ⟨q0, q1, qP, qK, qD, qE⟩ := q; exact ⟨q0, q1, qP, va_K.moved (u := U) (U := U.calling g mk a) (Vm.Alike.refl U.vm) qK, qD, am_E_same (s := U) (U := U.calling g mk a) rfl qE⟩, va_recv hK hP1 (ci := ci) hcl (q0 := 0) (am_ws_at hk), fun U hU hW => ⟨rfl, by rw [hU], by rw [hU]; exact hP1, va_K.moved hW.alike hK, hD1.weaken (fun _ _ _ _ => trivial), by rw [hU]; exact am_E_warm hW (am_E_call hS hFc (am_E_at (fun k q => h1.2.2.1 k (hk9 k q)) hE))⟩⟩ rfl (by simp) hl.1 (by simp [am_v, am_pl_l hpl, h1.2.2.2.2]) (lv_room (by rw [List.map_map]; simpa [Function.comp_def, am_v_cat] using hcat)) hd ⟨by have := hm.2.2.1; have := hnc.1; omega, by have := hm.2.2.2; have := hnc.2; omega⟩) hS (fun q _ h => hFc q h) hFc (fun a' res9 t H1 locs1 ht hres9 h2 hP2 hD2 hS1 hk1 => ?_)
  subst hres9
  have ea : a' = aM := funext fun k => h2 k trivial
  subst ea
  obtain ⟨hP3, hD3⟩ := am_join hPs hDs hk1 hFc (by rw [← ht]; exact hP2) hD2
  exact k a aC a' H1 ls locs1 h1 (am_comm (by rw [List.append_assoc]; exact hP3)) (am_Dc (by rw [List.append_assoc]; exact hD3)) hS1 hl
end AML
