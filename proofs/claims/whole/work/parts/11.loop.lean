theorem am_nj {iv : Int32} {j L : Nat} (e : iv = nI j) (hL : L ≤ 3072) (h2 : j ≤ L + 6) (q : ¬ nI L - (6 : Int32) < iv) : j + 6 ≤ L := by
  rcases Nat.lt_or_ge L (j + 6) with h | h
  · exfalso
    apply q
    rw [e]
    apply Int32.lt_iff_toInt_lt.mpr
    have e6 : (6 : Int32) = nI 6 := rfl
    rw [e6, pk_sub_toInt (by omega) (by omega), nI_toInt (by omega)]
    omega
  · exact h
theorem l_tab {x : am_X} {Q : State → Prop} {cc : ByteArray} {y : MethodName} {nL : Nat} {ret : Option FieldType} {dd mc ms pc : Nat} {lv : List (Option Value)} {st : List Value} {al : Bool} {IC : am_I} {LC : am_L} {IM : am_I} {LM : am_L} {o : Int64} {nc ns : Nat} (hc : am_ok x cc y nL ret dd mc ms) {dflt lo hi : Int} {offs : Array Int} {len tgt : Nat} {u : Int32} (hd : decode cc pc = .ok (.tableswitch dflt lo hi offs, len)) (ht : (pc : Int) + dflt = (tgt : Int)) (hhi : hi = lo + offs.size - 1) (hlo : lo = 0) (kd : am_JL x Q tgt lv st al IC LC IM LM o nc ns)
    (ka : ∀ (k : Nat) (off : Int) (tgt2 : Nat), offs[k]? = some off → (pc : Int) + off = (tgt2 : Int) → am_JL x Q tgt2 lv st al IC LC IM LM o nc ns) (kt : ∀ (k : Nat) (off : Int), offs[k]? = some off → ∃ tgt2 : Nat, (pc : Int) + off = (tgt2 : Int)) : am_JL x Q pc lv (.int u :: st) al IC LC IM LM o nc ns := by
  obtain ⟨p, l, e, Rm, s, m, args, below, meth, c, D, G, A, a0, k0, mc9, ms9⟩ := x
  obtain ⟨hx, hb, -⟩ := hc
  intro a aC aM H ls locs h1 hP hD hS hl
  by_cases q1 : u.toInt < lo
  · exact lv_tableOut hx hb hd (Or.inl q1) ht (kd a aC aM H ls locs h1 hP hD hS hl)
  · by_cases q2 : hi < u.toInt
    · exact lv_tableOut hx hb hd (Or.inr q2) ht (kd a aC aM H ls locs h1 hP hD hS hl)
    · obtain ⟨off, ho⟩ : ∃ off, offs[(u.toInt - lo).toNat]? = some off := ⟨_, Array.getElem?_eq_getElem (by omega)⟩
      obtain ⟨tgt2, e2⟩ := kt _ off ho
      exact lv_tableIn hx hb hd q1 q2 ho e2 (ka _ off tgt2 ho e2 a aC aM H ls locs h1 hP hD hS hl)
theorem am_ix {iv : Int32} {j L t : Nat} (e : iv = nI j) (h : j + 6 ≤ L) (hL : L ≤ 3072) (ht : t < 6) : vp_in (iv + nI t) L := by
  rw [e, nI_add]; exact vp_in_nI (by omega) (by omega)

set_option maxRecDepth 100000 in
set_option maxHeartbeats 8000000 in
theorem law_loop {x : am_X} {Q : State → Prop} {L : Nat} {xs : Nat → Int32} {Rl : am_Rl} (hc : am_ok x cL_law yL_law 7 (some .boolean) 2048 601024 7293034) (hX : am_sc x L xs) (hL : L ≤ 3072) (p_feed : pd_feed Rl) (p_end : pd_end Rl) (p_fault : pd_fault Rl) (p_text : pd_text Rl) (p_orchard : pd_orchard Rl) (p_law : pd_law Rl) (p_won : pd_won Rl) (p_go : pd_go Rl) (p_stay : pd_stay Rl) (p_press : pd_press Rl) (p_evening : pd_evening Rl) (p_march : pd_march Rl) (p_undo : pd_undo Rl) (p_log : pd_log Rl) (p_escorts : pd_escorts Rl) (p_loophole : pd_loophole Rl) (p_closed : pd_closed Rl) (p_reads : pd_reads Rl) (p_away : pd_away Rl) (p_forced : pd_forced Rl) (p_soonest : pd_soonest Rl) (p_pony : pd_pony Rl) (p_gets : pd_gets Rl) (p_resting : pd_resting Rl) (p_letter : pd_letter Rl) (p_fit : pd_fit Rl) (p_ask : pd_ask Rl) (p_odds : pd_odds Rl) (p_hurry : pd_hurry Rl) (p_behind : pd_behind Rl) (p_next : pd_next Rl) (p_last : pd_last Rl) (p_even : pd_even Rl) (p_sure : pd_sure Rl) (p_weary : pd_weary Rl) (p_ahead : pd_ahead Rl) (p_meeting : pd_meeting Rl) (p_image : pd_image Rl) (p_back : pd_back Rl) (p_count : pd_count Rl) (h_man : ∀ (iv : Int32) (hin1 : vp_in (iv + (1 : Int32)) L) (hin2 : vp_in (iv + (2 : Int32)) L) (hin3 : vp_in (iv + (3 : Int32)) L) (al : Bool) (IC : am_I) (LC : am_L) (IM : am_I) (LM : am_L) (o : Int64) (nc ns : Nat), nc + 8 ≤ 601024 ∧ ns + 12000 ≤ 7293034 → Rl al IC LC IM LM → (∀ (al : Bool) (IC : am_I) (LC : am_L) (IM : am_I) (LM : am_L) (o : Int64) (nc' ns' : Nat), nc' ≤ nc + 8 → ns' ≤ ns + 12000 → Rl al IC LC IM LM → am_JL x Q 1556 [some (.ref 1000020), some (.ref 500000), some (.ref 500001), some (.ref 500002), some (.int iv), none, none] [] al IC LC IM LM o nc' ns') → am_JL x Q 384 [some (.ref 1000020), some (.ref 500000), some (.ref 500001), some (.ref 500002), some (.int iv), none, none] [] al IC LC IM LM o nc ns) (h_duel : ∀ (iv : Int32) (hin1 : vp_in (iv + (1 : Int32)) L) (hin2 : vp_in (iv + (2 : Int32)) L) (hin3 : vp_in (iv + (3 : Int32)) L) (al : Bool) (IC : am_I) (LC : am_L) (IM : am_I) (LM : am_L) (o : Int64) (nc ns : Nat), nc + 8 ≤ 601024 ∧ ns + 12000 ≤ 7293034 → Rl al IC LC IM LM → (∀ (al : Bool) (IC : am_I) (LC : am_L) (IM : am_I) (LM : am_L) (o : Int64) (nc' ns' : Nat), nc' ≤ nc + 8 → ns' ≤ ns + 12000 → Rl al IC LC IM LM → am_JL x Q 1556 [some (.ref 1000020), some (.ref 500000), some (.ref 500001), some (.ref 500002), some (.int iv), none, none] [] al IC LC IM LM o nc' ns') → am_JL x Q 746 [some (.ref 1000020), some (.ref 500000), some (.ref 500001), some (.ref 500002), some (.int iv), none, none] [] al IC LC IM LM o nc ns) (h_champion : ∀ (iv : Int32) (hin1 : vp_in (iv + (1 : Int32)) L) (hin2 : vp_in (iv + (2 : Int32)) L) (hin3 : vp_in (iv + (3 : Int32)) L) (al : Bool) (IC : am_I) (LC : am_L) (IM : am_I) (LM : am_L) (o : Int64) (nc ns : Nat), nc + 8 ≤ 601024 ∧ ns + 12000 ≤ 7293034 → Rl al IC LC IM LM → (∀ (al : Bool) (IC : am_I) (LC : am_L) (IM : am_I) (LM : am_L) (o : Int64) (nc' ns' : Nat), nc' ≤ nc + 8 → ns' ≤ ns + 12000 → Rl al IC LC IM LM → am_JL x Q 1556 [some (.ref 1000020), some (.ref 500000), some (.ref 500001), some (.ref 500002), some (.int iv), none, none] [] al IC LC IM LM o nc' ns') → am_JL x Q 795 [some (.ref 1000020), some (.ref 500000), some (.ref 500001), some (.ref 500002), some (.int iv), none, none] [] al IC LC IM LM o nc ns) (h_treaty : ∀ (iv : Int32) (hin1 : vp_in (iv + (1 : Int32)) L) (hin2 : vp_in (iv + (2 : Int32)) L) (hin3 : vp_in (iv + (3 : Int32)) L) (al : Bool) (IC : am_I) (LC : am_L) (IM : am_I) (LM : am_L) (o : Int64) (nc ns : Nat), nc + 8 ≤ 601024 ∧ ns + 12000 ≤ 7293034 → Rl al IC LC IM LM → (∀ (al : Bool) (IC : am_I) (LC : am_L) (IM : am_I) (LM : am_L) (o : Int64) (nc' ns' : Nat), nc' ≤ nc + 8 → ns' ≤ ns + 12000 → Rl al IC LC IM LM → am_JL x Q 1556 [some (.ref 1000020), some (.ref 500000), some (.ref 500001), some (.ref 500002), some (.int iv), none, none] [] al IC LC IM LM o nc' ns') → am_JL x Q 1343 [some (.ref 1000020), some (.ref 500000), some (.ref 500001), some (.ref 500002), some (.int iv), none, none] [] al IC LC IM LM o nc ns) (h_victors : ∀ (iv : Int32) (hin1 : vp_in (iv + (1 : Int32)) L) (hin2 : vp_in (iv + (2 : Int32)) L) (hin3 : vp_in (iv + (3 : Int32)) L) (al : Bool) (IC : am_I) (LC : am_L) (IM : am_I) (LM : am_L) (o : Int64) (nc ns : Nat), nc + 8 ≤ 601024 ∧ ns + 12000 ≤ 7293034 → Rl al IC LC IM LM → (∀ (al : Bool) (IC : am_I) (LC : am_L) (IM : am_I) (LM : am_L) (o : Int64) (nc' ns' : Nat), nc' ≤ nc + 8 → ns' ≤ ns + 12000 → Rl al IC LC IM LM → am_JL x Q 1556 [some (.ref 1000020), some (.ref 500000), some (.ref 500001), some (.ref 500002), some (.int iv), none, none] [] al IC LC IM LM o nc' ns') → am_JL x Q 1380 [some (.ref 1000020), some (.ref 500000), some (.ref 500001), some (.ref 500002), some (.int iv), none, none] [] al IC LC IM LM o nc ns) (kend : ∀ (iv : Int32) (al : Bool) (IC : am_I) (LC : am_L) (IM : am_I) (LM : am_L) (o : Int64) (nc ns : Nat), nc ≤ 601024 → ns ≤ 7293034 → am_JL x Q 1562 [some (.ref 1000020), some (.ref 500000), some (.ref 500001), some (.ref 500002), some (.int iv), none, none] [] al IC LC IM LM o nc ns) :
    ∀ (f j : Nat) (iv : Int32) (al : Bool) (IC : am_I) (LC : am_L) (IM : am_I) (LM : am_L) (o : Int64) (nc ns : Nat), L < j + 6 * f → j ≤ L + 6 → iv = nI j → nc + 8 * f ≤ 601024 → ns + 12000 * f ≤ 7293034 → Rl al IC LC IM LM → am_JL x Q 23 [some (.ref 1000020), some (.ref 500000), some (.ref 500001), some (.ref 500002), some (.int iv), none, none] [] al IC LC IM LM o nc ns := by
  intro f
  induction f with
  | zero =>
    intro j iv al IC LC IM LM o nc ns h1 h2 e h3 h4 hR
    refine l_iload hc dL_law_23 rfl ?_
    refine l_aload_n hc dL_law_25 rfl ?_
    refine l_slen hc hX dL_law_26 ?_
    refine l_bipush (v := (6 : Int32)) hc dL_law_27 cb_6 ?_
    refine l_isub hc dL_law_29 ?_
    refine l_icmp_gt (tgt := 1562) hc dL_law_30 rfl (fun q => ?_) (fun q => ?_)
    · exact kend _ _ _ _ _ _ _ _ _ (by omega) (by omega)
    · have hj : j + 6 ≤ L := am_nj e hL h2 q
      exact absurd h1 (by omega)
  | succ f ih =>
    intro j iv al IC LC IM LM o nc ns h1 h2 e h3 h4 hR
    refine l_iload hc dL_law_23 rfl ?_
    refine l_aload_n hc dL_law_25 rfl ?_
    refine l_slen hc hX dL_law_26 ?_
    refine l_bipush (v := (6 : Int32)) hc dL_law_27 cb_6 ?_
    refine l_isub hc dL_law_29 ?_
    refine l_icmp_gt (tgt := 1562) hc dL_law_30 rfl (fun q => ?_) (fun q => ?_)
    · exact kend _ _ _ _ _ _ _ _ _ (by omega) (by omega)
    · have hj : j + 6 ≤ L := am_nj e hL h2 q
      have hin0 : vp_in iv L := by rw [e]; exact vp_in_nI (by omega) (by omega)
      have hin1 : vp_in (iv + (1 : Int32)) L := am_ix (t := 1) e hj hL (by decide)
      have hin2 : vp_in (iv + (2 : Int32)) L := am_ix (t := 2) e hj hL (by decide)
      have hin3 : vp_in (iv + (3 : Int32)) L := am_ix (t := 3) e hj hL (by decide)
      have hin4 : vp_in (iv + (4 : Int32)) L := am_ix (t := 4) e hj hL (by decide)
      have hin5 : vp_in (iv + (5 : Int32)) L := am_ix (t := 5) e hj hL (by decide)
      have kk : ∀ (al : Bool) (IC : am_I) (LC : am_L) (IM : am_I) (LM : am_L) (o : Int64) (nc' ns' : Nat), nc' ≤ nc + 8 → ns' ≤ ns + 12000 → Rl al IC LC IM LM → am_JL x Q 1556 [some (.ref 1000020), some (.ref 500000), some (.ref 500001), some (.ref 500002), some (.int iv), none, none] [] al IC LC IM LM o nc' ns' := by
        intro al IC LC IM LM o nc' ns' g1 g2 hR
        refine l_iinc (w := (6 : Int32)) hc dL_law_1556 rfl (by decide) (by decide) ?_
        refine l_goto (tgt := 23) hc dL_law_1559 rfl ?_
        exact ih (j + 6) _ al IC LC IM LM o nc' ns' (by omega) (by omega) (by rw [e]; exact nI_add j 6) (by omega) (by omega) hR
      have kk2 : ∀ (IC : am_I) (LC : am_L) (IM : am_I) (LM : am_L), Rl al IC LC IM LM → am_JL x Q 1556 [some (.ref 1000020), some (.ref 500000), some (.ref 500001), some (.ref 500002), some (.int iv), none, none] [] al IC LC IM LM o nc ns := fun IC LC IM LM hR => kk al IC LC IM LM o nc ns (by omega) (by omega) hR
      have hnc : nc ≤ 601024 ∧ ns ≤ 7293034 := ⟨by omega, by omega⟩
      refine l_aload_n hc dL_law_33 rfl ?_
      refine l_iload hc dL_law_34 rfl ?_
      refine l_sld hc hX dL_law_36 hin0 ?_
      refine l_bipush (v := (63 : Int32)) hc dL_law_37 cb_63 ?_
      refine l_iand hc dL_law_39 ?_
      refine l_tab (tgt := 1556) hc dL_law_40 rfl (by decide) (by decide) (kk2 _ _ _ _ hR) (fun k off tgt2 ho ht => ?_) (fun k off ho => ?_)
      · match k, ho with
        | 0, ho => have ho : (196 : Int) = off := Option.some.inj ho; subst ho; have ht : tgt2 = 236 := (by omega); subst ht; exact lc_feed hc hX p_feed iv hin1 hin2 hin3 hin4 hin5 al IC LC IM LM o nc ns hnc hR kk2
        | 1, ho => have ho : (269 : Int) = off := Option.some.inj ho; subst ho; have ht : tgt2 = 309 := (by omega); subst ht; exact lc_end hc hX p_end iv hin1 hin2 hin3 hin4 hin5 al IC LC IM LM o nc ns hnc hR kk2
        | 2, ho => have ho : (294 : Int) = off := Option.some.inj ho; subst ho; have ht : tgt2 = 334 := (by omega); subst ht; exact lc_fault hc hX p_fault iv hin1 hin2 hin3 hin4 hin5 al IC LC IM LM o nc ns hnc hR kk2
        | 3, ho => have ho : (319 : Int) = off := Option.some.inj ho; subst ho; have ht : tgt2 = 359 := (by omega); subst ht; exact lc_text hc hX p_text iv hin1 hin2 hin3 hin4 hin5 al IC LC IM LM o nc ns hnc hR kk2
        | 4, ho => have ho : (344 : Int) = off := Option.some.inj ho; subst ho; have ht : tgt2 = 384 := (by omega); subst ht; exact h_man iv hin1 hin2 hin3 al IC LC IM LM o nc ns ⟨by omega, by omega⟩ hR kk
        | 5, ho => have ho : (412 : Int) = off := Option.some.inj ho; subst ho; have ht : tgt2 = 452 := (by omega); subst ht; exact lc_orchard hc hX p_orchard iv hin1 hin2 hin3 hin4 hin5 al IC LC IM LM o nc ns hnc hR kk2
        | 6, ho => have ho : (449 : Int) = off := Option.some.inj ho; subst ho; have ht : tgt2 = 489 := (by omega); subst ht; exact lc_law hc hX p_law iv hin1 hin2 hin3 hin4 hin5 al IC LC IM LM o nc ns hnc hR kk2
        | 7, ho => have ho : (474 : Int) = off := Option.some.inj ho; subst ho; have ht : tgt2 = 514 := (by omega); subst ht; exact lc_won hc hX p_won iv hin1 hin2 hin3 hin4 hin5 al IC LC IM LM o nc ns hnc hR kk2
        | 8, ho => have ho : (487 : Int) = off := Option.some.inj ho; subst ho; have ht : tgt2 = 527 := (by omega); subst ht; exact lc_go hc hX p_go iv hin1 hin2 hin3 hin4 hin5 al IC LC IM LM o nc ns hnc hR kk2
        | 9, ho => have ho : (512 : Int) = off := Option.some.inj ho; subst ho; have ht : tgt2 = 552 := (by omega); subst ht; exact lc_stay hc hX p_stay iv hin1 hin2 hin3 hin4 hin5 al IC LC IM LM o nc ns hnc hR kk2
        | 10, ho => have ho : (537 : Int) = off := Option.some.inj ho; subst ho; have ht : tgt2 = 577 := (by omega); subst ht; exact lc_press hc hX p_press iv hin1 hin2 hin3 hin4 hin5 al IC LC IM LM o nc ns hnc hR kk2
        | 11, ho => have ho : (574 : Int) = off := Option.some.inj ho; subst ho; have ht : tgt2 = 614 := (by omega); subst ht; exact lc_evening hc hX p_evening iv hin1 hin2 hin3 hin4 hin5 al IC LC IM LM o nc ns hnc hR kk2
        | 12, ho => have ho : (587 : Int) = off := Option.some.inj ho; subst ho; have ht : tgt2 = 627 := (by omega); subst ht; exact lc_march hc hX p_march iv hin1 hin2 hin3 hin4 hin5 al IC LC IM LM o nc ns hnc hR kk2
        | 13, ho => have ho : (656 : Int) = off := Option.some.inj ho; subst ho; have ht : tgt2 = 696 := (by omega); subst ht; exact lc_undo hc hX p_undo iv hin1 hin2 hin3 hin4 hin5 al IC LC IM LM o nc ns hnc hR kk2
        | 14, ho => have ho : (669 : Int) = off := Option.some.inj ho; subst ho; have ht : tgt2 = 709 := (by omega); subst ht; exact lc_log hc hX p_log iv hin1 hin2 hin3 hin4 hin5 al IC LC IM LM o nc ns hnc hR kk2
        | 15, ho => have ho : (706 : Int) = off := Option.some.inj ho; subst ho; have ht : tgt2 = 746 := (by omega); subst ht; exact h_duel iv hin1 hin2 hin3 al IC LC IM LM o nc ns ⟨by omega, by omega⟩ hR kk
        | 16, ho => have ho : (755 : Int) = off := Option.some.inj ho; subst ho; have ht : tgt2 = 795 := (by omega); subst ht; exact h_champion iv hin1 hin2 hin3 al IC LC IM LM o nc ns ⟨by omega, by omega⟩ hR kk
        | 17, ho => have ho : (780 : Int) = off := Option.some.inj ho; subst ho; have ht : tgt2 = 820 := (by omega); subst ht; exact lc_escorts hc hX p_escorts iv hin1 hin2 hin3 hin4 hin5 al IC LC IM LM o nc ns hnc hR kk2
        | 18, ho => have ho : (817 : Int) = off := Option.some.inj ho; subst ho; have ht : tgt2 = 857 := (by omega); subst ht; exact lc_loophole hc hX p_loophole iv hin1 hin2 hin3 hin4 hin5 al IC LC IM LM o nc ns hnc hR kk2
        | 19, ho => have ho : (842 : Int) = off := Option.some.inj ho; subst ho; have ht : tgt2 = 882 := (by omega); subst ht; exact lc_closed hc hX p_closed iv hin1 hin2 hin3 hin4 hin5 al IC LC IM LM o nc ns hnc hR kk2
        | 20, ho => have ho : (855 : Int) = off := Option.some.inj ho; subst ho; have ht : tgt2 = 895 := (by omega); subst ht; exact lc_reads hc hX p_reads iv hin1 hin2 hin3 hin4 hin5 al IC LC IM LM o nc ns hnc hR kk2
        | 21, ho => have ho : (880 : Int) = off := Option.some.inj ho; subst ho; have ht : tgt2 = 920 := (by omega); subst ht; exact lc_away hc hX p_away iv hin1 hin2 hin3 hin4 hin5 al IC LC IM LM o nc ns hnc hR kk2
        | 22, ho => have ho : (905 : Int) = off := Option.some.inj ho; subst ho; have ht : tgt2 = 945 := (by omega); subst ht; exact lc_forced hc hX p_forced iv hin1 hin2 hin3 hin4 hin5 al IC LC IM LM o nc ns hnc hR kk2
        | 23, ho => have ho : (930 : Int) = off := Option.some.inj ho; subst ho; have ht : tgt2 = 970 := (by omega); subst ht; exact lc_soonest hc hX p_soonest iv hin1 hin2 hin3 hin4 hin5 al IC LC IM LM o nc ns hnc hR kk2
        | 24, ho => have ho : (955 : Int) = off := Option.some.inj ho; subst ho; have ht : tgt2 = 995 := (by omega); subst ht; exact lc_pony hc hX p_pony iv hin1 hin2 hin3 hin4 hin5 al IC LC IM LM o nc ns hnc hR kk2
        | 25, ho => have ho : (980 : Int) = off := Option.some.inj ho; subst ho; have ht : tgt2 = 1020 := (by omega); subst ht; exact lc_gets hc hX p_gets iv hin1 hin2 hin3 hin4 hin5 al IC LC IM LM o nc ns hnc hR kk2
        | 26, ho => have ho : (1017 : Int) = off := Option.some.inj ho; subst ho; have ht : tgt2 = 1057 := (by omega); subst ht; exact lc_resting hc hX p_resting iv hin1 hin2 hin3 hin4 hin5 al IC LC IM LM o nc ns hnc hR kk2
        | 27, ho => have ho : (1042 : Int) = off := Option.some.inj ho; subst ho; have ht : tgt2 = 1082 := (by omega); subst ht; exact lc_letter hc hX p_letter iv hin1 hin2 hin3 hin4 hin5 al IC LC IM LM o nc ns hnc hR kk2
        | 28, ho => have ho : (1079 : Int) = off := Option.some.inj ho; subst ho; have ht : tgt2 = 1119 := (by omega); subst ht; exact lc_fit hc hX p_fit iv hin1 hin2 hin3 hin4 hin5 al IC LC IM LM o nc ns hnc hR kk2
        | 29, ho => have ho : (1116 : Int) = off := Option.some.inj ho; subst ho; have ht : tgt2 = 1156 := (by omega); subst ht; exact lc_ask hc hX p_ask iv hin1 hin2 hin3 hin4 hin5 al IC LC IM LM o nc ns hnc hR kk2
        | 30, ho => have ho : (1153 : Int) = off := Option.some.inj ho; subst ho; have ht : tgt2 = 1193 := (by omega); subst ht; exact lc_odds hc hX p_odds iv hin1 hin2 hin3 hin4 hin5 al IC LC IM LM o nc ns hnc hR kk2
        | 31, ho => have ho : (1190 : Int) = off := Option.some.inj ho; subst ho; have ht : tgt2 = 1230 := (by omega); subst ht; exact lc_hurry hc hX p_hurry iv hin1 hin2 hin3 hin4 hin5 al IC LC IM LM o nc ns hnc hR kk2
        | 32, ho => have ho : (1227 : Int) = off := Option.some.inj ho; subst ho; have ht : tgt2 = 1267 := (by omega); subst ht; exact lc_behind hc hX p_behind iv hin1 hin2 hin3 hin4 hin5 al IC LC IM LM o nc ns hnc hR kk2
        | 33, ho => have ho : (1252 : Int) = off := Option.some.inj ho; subst ho; have ht : tgt2 = 1292 := (by omega); subst ht; exact lc_next hc hX p_next iv hin1 hin2 hin3 hin4 hin5 al IC LC IM LM o nc ns hnc hR kk2
        | 34, ho => have ho : (1277 : Int) = off := Option.some.inj ho; subst ho; have ht : tgt2 = 1317 := (by omega); subst ht; exact lc_last hc hX p_last iv hin1 hin2 hin3 hin4 hin5 al IC LC IM LM o nc ns hnc hR kk2
        | 35, ho => have ho : (1290 : Int) = off := Option.some.inj ho; subst ho; have ht : tgt2 = 1330 := (by omega); subst ht; exact lc_even hc hX p_even iv hin1 hin2 hin3 hin4 hin5 al IC LC IM LM o nc ns hnc hR kk2
        | 36, ho => have ho : (1303 : Int) = off := Option.some.inj ho; subst ho; have ht : tgt2 = 1343 := (by omega); subst ht; exact h_treaty iv hin1 hin2 hin3 al IC LC IM LM o nc ns ⟨by omega, by omega⟩ hR kk
        | 37, ho => have ho : (1340 : Int) = off := Option.some.inj ho; subst ho; have ht : tgt2 = 1380 := (by omega); subst ht; exact h_victors iv hin1 hin2 hin3 al IC LC IM LM o nc ns ⟨by omega, by omega⟩ hR kk
        | 38, ho => have ho : (1365 : Int) = off := Option.some.inj ho; subst ho; have ht : tgt2 = 1405 := (by omega); subst ht; exact lc_sure hc hX p_sure iv hin1 hin2 hin3 hin4 hin5 al IC LC IM LM o nc ns hnc hR kk2
        | 39, ho => have ho : (1390 : Int) = off := Option.some.inj ho; subst ho; have ht : tgt2 = 1430 := (by omega); subst ht; exact lc_weary hc hX p_weary iv hin1 hin2 hin3 hin4 hin5 al IC LC IM LM o nc ns hnc hR kk2
        | 40, ho => have ho : (1403 : Int) = off := Option.some.inj ho; subst ho; have ht : tgt2 = 1443 := (by omega); subst ht; exact lc_ahead hc hX p_ahead iv hin1 hin2 hin3 hin4 hin5 al IC LC IM LM o nc ns hnc hR kk2
        | 41, ho => have ho : (1428 : Int) = off := Option.some.inj ho; subst ho; have ht : tgt2 = 1468 := (by omega); subst ht; exact lc_meeting hc hX p_meeting iv hin1 hin2 hin3 hin4 hin5 al IC LC IM LM o nc ns hnc hR kk2
        | 42, ho => have ho : (1465 : Int) = off := Option.some.inj ho; subst ho; have ht : tgt2 = 1505 := (by omega); subst ht; exact lc_image hc hX p_image iv hin1 hin2 hin3 hin4 hin5 al IC LC IM LM o nc ns hnc hR kk2
        | 43, ho => have ho : (1478 : Int) = off := Option.some.inj ho; subst ho; have ht : tgt2 = 1518 := (by omega); subst ht; exact lc_back hc hX p_back iv hin1 hin2 hin3 hin4 hin5 al IC LC IM LM o nc ns hnc hR kk2
        | 44, ho => have ho : (1491 : Int) = off := Option.some.inj ho; subst ho; have ht : tgt2 = 1531 := (by omega); subst ht; exact lc_count hc hX p_count iv hin1 hin2 hin3 hin4 hin5 al IC LC IM LM o nc ns hnc hR kk2
        | k + 45, ho => simp at ho
      · match k, ho with
        | 0, ho => have ho : (196 : Int) = off := Option.some.inj ho; subst ho; exact ⟨236, rfl⟩
        | 1, ho => have ho : (269 : Int) = off := Option.some.inj ho; subst ho; exact ⟨309, rfl⟩
        | 2, ho => have ho : (294 : Int) = off := Option.some.inj ho; subst ho; exact ⟨334, rfl⟩
        | 3, ho => have ho : (319 : Int) = off := Option.some.inj ho; subst ho; exact ⟨359, rfl⟩
        | 4, ho => have ho : (344 : Int) = off := Option.some.inj ho; subst ho; exact ⟨384, rfl⟩
        | 5, ho => have ho : (412 : Int) = off := Option.some.inj ho; subst ho; exact ⟨452, rfl⟩
        | 6, ho => have ho : (449 : Int) = off := Option.some.inj ho; subst ho; exact ⟨489, rfl⟩
        | 7, ho => have ho : (474 : Int) = off := Option.some.inj ho; subst ho; exact ⟨514, rfl⟩
        | 8, ho => have ho : (487 : Int) = off := Option.some.inj ho; subst ho; exact ⟨527, rfl⟩
        | 9, ho => have ho : (512 : Int) = off := Option.some.inj ho; subst ho; exact ⟨552, rfl⟩
        | 10, ho => have ho : (537 : Int) = off := Option.some.inj ho; subst ho; exact ⟨577, rfl⟩
        | 11, ho => have ho : (574 : Int) = off := Option.some.inj ho; subst ho; exact ⟨614, rfl⟩
        | 12, ho => have ho : (587 : Int) = off := Option.some.inj ho; subst ho; exact ⟨627, rfl⟩
        | 13, ho => have ho : (656 : Int) = off := Option.some.inj ho; subst ho; exact ⟨696, rfl⟩
        | 14, ho => have ho : (669 : Int) = off := Option.some.inj ho; subst ho; exact ⟨709, rfl⟩
        | 15, ho => have ho : (706 : Int) = off := Option.some.inj ho; subst ho; exact ⟨746, rfl⟩
        | 16, ho => have ho : (755 : Int) = off := Option.some.inj ho; subst ho; exact ⟨795, rfl⟩
        | 17, ho => have ho : (780 : Int) = off := Option.some.inj ho; subst ho; exact ⟨820, rfl⟩
        | 18, ho => have ho : (817 : Int) = off := Option.some.inj ho; subst ho; exact ⟨857, rfl⟩
        | 19, ho => have ho : (842 : Int) = off := Option.some.inj ho; subst ho; exact ⟨882, rfl⟩
        | 20, ho => have ho : (855 : Int) = off := Option.some.inj ho; subst ho; exact ⟨895, rfl⟩
        | 21, ho => have ho : (880 : Int) = off := Option.some.inj ho; subst ho; exact ⟨920, rfl⟩
        | 22, ho => have ho : (905 : Int) = off := Option.some.inj ho; subst ho; exact ⟨945, rfl⟩
        | 23, ho => have ho : (930 : Int) = off := Option.some.inj ho; subst ho; exact ⟨970, rfl⟩
        | 24, ho => have ho : (955 : Int) = off := Option.some.inj ho; subst ho; exact ⟨995, rfl⟩
        | 25, ho => have ho : (980 : Int) = off := Option.some.inj ho; subst ho; exact ⟨1020, rfl⟩
        | 26, ho => have ho : (1017 : Int) = off := Option.some.inj ho; subst ho; exact ⟨1057, rfl⟩
        | 27, ho => have ho : (1042 : Int) = off := Option.some.inj ho; subst ho; exact ⟨1082, rfl⟩
        | 28, ho => have ho : (1079 : Int) = off := Option.some.inj ho; subst ho; exact ⟨1119, rfl⟩
        | 29, ho => have ho : (1116 : Int) = off := Option.some.inj ho; subst ho; exact ⟨1156, rfl⟩
        | 30, ho => have ho : (1153 : Int) = off := Option.some.inj ho; subst ho; exact ⟨1193, rfl⟩
        | 31, ho => have ho : (1190 : Int) = off := Option.some.inj ho; subst ho; exact ⟨1230, rfl⟩
        | 32, ho => have ho : (1227 : Int) = off := Option.some.inj ho; subst ho; exact ⟨1267, rfl⟩
        | 33, ho => have ho : (1252 : Int) = off := Option.some.inj ho; subst ho; exact ⟨1292, rfl⟩
        | 34, ho => have ho : (1277 : Int) = off := Option.some.inj ho; subst ho; exact ⟨1317, rfl⟩
        | 35, ho => have ho : (1290 : Int) = off := Option.some.inj ho; subst ho; exact ⟨1330, rfl⟩
        | 36, ho => have ho : (1303 : Int) = off := Option.some.inj ho; subst ho; exact ⟨1343, rfl⟩
        | 37, ho => have ho : (1340 : Int) = off := Option.some.inj ho; subst ho; exact ⟨1380, rfl⟩
        | 38, ho => have ho : (1365 : Int) = off := Option.some.inj ho; subst ho; exact ⟨1405, rfl⟩
        | 39, ho => have ho : (1390 : Int) = off := Option.some.inj ho; subst ho; exact ⟨1430, rfl⟩
        | 40, ho => have ho : (1403 : Int) = off := Option.some.inj ho; subst ho; exact ⟨1443, rfl⟩
        | 41, ho => have ho : (1428 : Int) = off := Option.some.inj ho; subst ho; exact ⟨1468, rfl⟩
        | 42, ho => have ho : (1465 : Int) = off := Option.some.inj ho; subst ho; exact ⟨1505, rfl⟩
        | 43, ho => have ho : (1478 : Int) = off := Option.some.inj ho; subst ho; exact ⟨1518, rfl⟩
        | 44, ho => have ho : (1491 : Int) = off := Option.some.inj ho; subst ho; exact ⟨1531, rfl⟩
        | k + 45, ho => simp at ho
