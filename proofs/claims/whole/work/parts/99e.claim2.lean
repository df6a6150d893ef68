/-! THE CLAIM, out of the duties -/
theorem ns_l1 : decide (Cond.laysStatic Bundle.tN "UNASSIGNED_STACK" Bundle.steD ∈ lw_tbl) = true := by decide +kernel
theorem ns_l2 : decide (Cond.laysStatic Bundle.tN "SUPPRESSED_SENTINEL" Bundle.listD ∈ lw_tbl) = true := by decide +kernel
theorem ns_l3 : decide (Cond.initialized Bundle.tN ∈ lw_tbl) = true := by decide +kernel
theorem ns_l4 : decide (Cond.stringRef RX11 160 "no such man" ∈ lw_tbl) = true := by decide +kernel
theorem ns_l5 : decide (Cond.stringRef RX11 192 "no such thing of a man" ∈ lw_tbl) = true := by decide +kernel
set_option maxRecDepth 100000 in
set_option maxHeartbeats 8000000 in
theorem am_startT {s : State} {b : Nat} (hts : ∀ w ∈ lw_tbl, w.before #[Value.ref b] s = true) (hgv : (Jvm.Cond.and given_1 narrow_1).before #[Value.ref b] s = true) : am_T (fun q => s.heap.size ≤ q) s s.heap := by
  have hs := flat_of_before _ hgv
  have hA : ∀ a : Nat, a < s.heap.size → ¬ (fun q => s.heap.size ≤ q) a := fun a h => Nat.not_le.mpr h
  have z1 := vx_Zqof (A := fun q => s.heap.size ≤ q) (hts _ (of_decide_eq_true ns_l1)) (hts _ (of_decide_eq_true ns_l3)) (hs (.isRef (.static Bundle.tN "UNASSIGNED_STACK" Bundle.steD)) (by decide +kernel)) hA
  have z2 := vx_Zqof (A := fun q => s.heap.size ≤ q) (hts _ (of_decide_eq_true ns_l2)) (hts _ (of_decide_eq_true ns_l3)) (hs (.isRef (.static Bundle.tN "SUPPRESSED_SENTINEL" Bundle.listD)) (by decide +kernel)) hA
  obtain ⟨a1, -, -, -, q1, -⟩ := Cond.exactly_spec (args := #[Value.ref b]) (first := s) (o := none) (s := s) (idx := []) (t := .string "LastHome" 160) (cls := "java/lang/String") (hs (.exactly (.string "LastHome" 160) "java/lang/String") (by decide +kernel))
  obtain ⟨a2, -, -, -, q2, -⟩ := Cond.exactly_spec (args := #[Value.ref b]) (first := s) (o := none) (s := s) (idx := []) (t := .string "LastHome" 192) (cls := "java/lang/String") (hs (.exactly (.string "LastHome" 192) "java/lang/String") (by decide +kernel))
  exact ⟨z1, z2, ⟨a1, vk_R.of (hts _ (of_decide_eq_true ns_l4)) q1⟩, ⟨a2, vk_R.of (hts _ (of_decide_eq_true ns_l5)) q2⟩, vx_c (hts _ (of_decide_eq_true nsH0)) (vx_c (hts _ (of_decide_eq_true nsH1)) (vx_c (hts _ (of_decide_eq_true nsH2)) (vx_c (hts _ (of_decide_eq_true nsH3)) vx_n)))⟩
set_option maxHeartbeats 8000000 in
set_option maxRecDepth 100000 in
theorem whole_start2 {p : Program} {e : Env} {s : State} {m : MethodId} {below : List Frame} {meth : Method} {c : Code} (Rl : am_Rl) (h0 : Rl false (am_IL IIC_33) am_L0 (am_IL IIM_1) am_L0) (p_feed : pd_feed Rl) (p_end : pd_end Rl) (p_fault : pd_fault Rl) (p_text : pd_text Rl) (p_orchard : pd_orchard Rl) (p_law : pd_law Rl) (p_won : pd_won Rl) (p_go : pd_go Rl) (p_stay : pd_stay Rl) (p_press : pd_press Rl) (p_evening : pd_evening Rl) (p_march : pd_march Rl) (p_undo : pd_undo Rl) (p_log : pd_log Rl) (p_escorts : pd_escorts Rl) (p_loophole : pd_loophole Rl) (p_closed : pd_closed Rl) (p_reads : pd_reads Rl) (p_away : pd_away Rl) (p_forced : pd_forced Rl) (p_soonest : pd_soonest Rl) (p_pony : pd_pony Rl) (p_gets : pd_gets Rl) (p_resting : pd_resting Rl) (p_letter : pd_letter Rl) (p_fit : pd_fit Rl) (p_ask : pd_ask Rl) (p_odds : pd_odds Rl) (p_hurry : pd_hurry Rl) (p_behind : pd_behind Rl) (p_next : pd_next Rl) (p_last : pd_last Rl) (p_even : pd_even Rl) (p_sure : pd_sure Rl) (p_weary : pd_weary Rl) (p_ahead : pd_ahead Rl) (p_meeting : pd_meeting Rl) (p_image : pd_image Rl) (p_back : pd_back Rl) (p_count : pd_count Rl) (h_man : py_man Rl) (h_duel : py_duel Rl) (h_champion : py_champion Rl) (h_treaty : py_treaty Rl) (h_victors : py_victors Rl) (l : Launch) (hst : l.stackTraces = false) {b L : Nat} {xs : Nat → Int32} (hL : L ≤ 3072) (C0 : lw_At p s m meth c b L xs) : W p l e room_1 s m #[Value.ref b] below meth c s.heap [] 0 0 (lw_Z below #[Value.ref b] s) (entryFrame m ([Value.ref b] : List Value).toArray 7) := by
  obtain ⟨hx, hb, hr, hml, hown, hts, hX, hbl, hlocks, hgv, hnm⟩ := C0
  obtain ⟨a0, e20, hE⟩ := am_start hts hgv
  obtain ⟨D, G, hK⟩ := am_startK hts
  have hc : am_ok (p, l, e, room_1, s, m, #[Value.ref b], below, meth, c, D, G, (fun q => s.heap.size ≤ q), a0, (fun k => 1000000 ≤ k), 601024, 7293034) cL_law yL_law 7 (some .boolean) 2048 601024 7293034 := ⟨hx, hb, hown, fun w h => hts w (List.mem_filter.mp h).1, hr, hlocks, hK, fun q h => h, by decide, by decide, ⟨rfl, rfl, by decide, by decide⟩, hml, hnm, hE, fun k h => h⟩
  have hsc : am_sc (p, l, e, room_1, s, m, #[Value.ref b], below, meth, c, D, G, (fun q => s.heap.size ≤ q), a0, (fun k => 1000000 ≤ k), 601024, 7293034) L xs := ⟨by rw [e20]; exact hX, by rw [e20]; exact hbl, by rw [e20]; exact Nat.not_le.mpr hbl⟩
  have hct : am_ct (p, l, e, room_1, s, m, #[Value.ref b], below, meth, c, D, G, (fun q => s.heap.size ≤ q), a0, (fun k => 1000000 ≤ k), 601024, 7293034) := am_startT hts hgv
  have hJ := law_pre1 (Q := lw_Z below #[Value.ref b] s) hc rfl (law_loop hc hsc hL p_feed p_end p_fault p_text p_orchard p_law p_won p_go p_stay p_press p_evening p_march p_undo p_log p_escorts p_loophole p_closed p_reads p_away p_forced p_soonest p_pony p_gets p_resting p_letter p_fit p_ask p_odds p_hurry p_behind p_next p_last p_even p_sure p_weary p_ahead p_meeting p_image p_back p_count (h_man _ _ L xs hc hsc hst hct) (h_duel _ _ L xs hc hsc hst (fun k h => h)) (h_champion _ _ L xs hc hsc hst (fun k h => h)) (h_treaty _ _ L xs hc hsc hst (fun k h => h)) (h_victors _ _ L xs hc hsc hst (fun k h => h)) (fun iv al IC LC IM LM o nc ns g1 g2 => by
    intro a aC aM H ls locs h1 hP hD hS hl
    refine W.widen (k := 601024) (n := 7293034) g1 g2 ?_
    refine va_forget (fun q hq => hS.2.2 q hq) ?_
    refine lv_iconst (v := 1) hx hb dL_law_1562 (by decide) ?_
    exact lw_ret hx hb hr hlocks dL_law_1563) 513 0 0 false (am_IL IIC_33) am_L0 (am_IL IIM_1) am_L0 0 94 107741 (by omega) (by omega) rfl (by omega) (by omega) h0)
  have hl := lv_entry ([.ref b]) (n := 7) (Nat.le_of_ble_eq_true rfl)
  rw [lg_entry_eq]
  generalize (lg_sl ([.ref b]) ++ List.replicate (7 - (lg_sl ([.ref b])).length) Slot.unset).toArray = ls at hl ⊢
  exact hJ a0 s.heap ls [] (fun _ _ => rfl) (fun k q h => by simp [am_ws] at h) ⟨fun i j p q h => by simp [am_ws] at h, fun k q h => by simp [am_ws] at h⟩ va_S.rf ⟨hl.1.trans hml.symm, hl.2.1, fun i v hi => by
    match i, hi with
    | 0, hi => cases hi; have := hl.2.2 (0, .ref b) (by simp [lv_args]); rw [← e20] at this; exact this
    | 1, hi => cases hi
    | 2, hi => cases hi
    | 3, hi => cases hi
    | 4, hi => cases hi
    | 5, hi => cases hi
    | 6, hi => cases hi
    | i + 7, hi => simp at hi⟩
set_option maxHeartbeats 4000000 in
theorem lw_walk2 (Rl : am_Rl) (h0 : Rl false (am_IL IIC_33) am_L0 (am_IL IIM_1) am_L0) (p_feed : pd_feed Rl) (p_end : pd_end Rl) (p_fault : pd_fault Rl) (p_text : pd_text Rl) (p_orchard : pd_orchard Rl) (p_law : pd_law Rl) (p_won : pd_won Rl) (p_go : pd_go Rl) (p_stay : pd_stay Rl) (p_press : pd_press Rl) (p_evening : pd_evening Rl) (p_march : pd_march Rl) (p_undo : pd_undo Rl) (p_log : pd_log Rl) (p_escorts : pd_escorts Rl) (p_loophole : pd_loophole Rl) (p_closed : pd_closed Rl) (p_reads : pd_reads Rl) (p_away : pd_away Rl) (p_forced : pd_forced Rl) (p_soonest : pd_soonest Rl) (p_pony : pd_pony Rl) (p_gets : pd_gets Rl) (p_resting : pd_resting Rl) (p_letter : pd_letter Rl) (p_fit : pd_fit Rl) (p_ask : pd_ask Rl) (p_odds : pd_odds Rl) (p_hurry : pd_hurry Rl) (p_behind : pd_behind Rl) (p_next : pd_next Rl) (p_last : pd_last Rl) (p_even : pd_even Rl) (p_sure : pd_sure Rl) (p_weary : pd_weary Rl) (p_ahead : pd_ahead Rl) (p_meeting : pd_meeting Rl) (p_image : pd_image Rl) (p_back : pd_back Rl) (p_count : pd_count Rl) (h_man : py_man Rl) (h_duel : py_duel Rl) (h_champion : py_champion Rl) (h_treaty : py_treaty Rl) (h_victors : py_victors Rl) (l : Launch) (hst : l.stackTraces = false) (b : Addr) (xs : List Int32) : MetFree l x (headSpec (Jvm.Cond.code x code maxLocals ret :: tables_1) room_1) (lw_P b xs) (fun _ _ _ _ _ => True) lw_Q := by
  refine MetFree.of_bodyS (code := code) (maxLocals := maxLocals) (ret := ret) (by decide) ?_ ?_
  · intro args s m h hn
    obtain ⟨meth, c, h1, h2, h3, h4, h5, h6, -, -⟩ := Cond.code_spec hn (atoms_spec (ws := Jvm.Cond.code x code maxLocals ret :: tables_1) h _ List.mem_cons_self)
    exact ⟨meth, c, h1, h2, h3, h4, h5, h6⟩
  · intro p e s m args below meth c s₁ B hml0 hP _
    obtain ⟨rfl, hx, hbd, hgv⟩ := hP
    obtain ⟨scr, harrAt, hlist, hof, hsmall⟩ := hx
    obtain ⟨hcb, hkn, -, -⟩ := State.arrayAt?_spec harrAt
    have hown : s.vm.findClass R_law = some m.cls := findClass_of_methodNamed B.named
    have hts0 : ∀ c ∈ (Jvm.Cond.code x code maxLocals ret :: tables_1), c.before #[Value.ref b] s = true := atoms_spec (ws := Jvm.Cond.code x code maxLocals ret :: tables_1) B.pre
    have hts : ∀ w ∈ lw_tbl, w.before #[Value.ref b] s = true := k2_hts_sels lw_privs (fun w hw => hts0 w (List.mem_cons_of_mem _ hw)) lw_privs_ok
    have hml : c.maxLocals = 7 := B.maxLocals_eq (hts0 _ List.mem_cons_self)
    have X₀ : Stand p l e room_1 s m #[Value.ref b] below meth c s₁ [] 0 0 := Stand.of_body B
    have hh0 : s₁.heap = s.heap := by rw [B.state]; rfl
    have hsz : scr.slots.size = xs.length := by rw [← Array.length_toList, hlist, List.length_map]
    have hval : ∀ j : Nat, j < xs.length → scr.slots[j]? = some (.int (xs.getD j 0)) := fun j hj => by
      rw [← Array.getElem?_toList, hlist]
      simp [hj]
    have hbl : b < s.heap.size := (Array.getElem?_eq_some_iff.mp hcb).1
    have hX : va_X b xs.length (fun j => xs.getD j 0) s s.heap := ⟨scr, hcb, hof, hkn, hsz, hval⟩
    have K : W p l e room_1 s m #[Value.ref b] below meth c s₁.heap [] 0 0 (lw_Z below #[Value.ref b] s) (entryFrame m ([Value.ref b] : List Value).toArray 7) := by
      rw [hh0]
      exact whole_start2 Rl h0 p_feed p_end p_fault p_text p_orchard p_law p_won p_go p_stay p_press p_evening p_march p_undo p_log p_escorts p_loophole p_closed p_reads p_away p_forced p_soonest p_pony p_gets p_resting p_letter p_fit p_ask p_odds p_hurry p_behind p_next p_last p_even p_sure p_weary p_ahead p_meeting p_image p_back p_count h_man h_duel h_champion h_treaty h_victors l hst hbd ⟨B.exec, B.bytes, B.returns, hml, hown, hts, hX, hbl, B.notSynchronized, hgv, (name_of_methodNamed B.named B.method).1⟩
    obtain ⟨t, a1, o, b1, b2, b3⟩ := K s₁ rfl X₀
    exact ⟨t, o, a1, b1, b2, b3⟩
theorem lw_comes2 (Rl : am_Rl) (h0 : Rl false (am_IL IIC_33) am_L0 (am_IL IIM_1) am_L0) (p_feed : pd_feed Rl) (p_end : pd_end Rl) (p_fault : pd_fault Rl) (p_text : pd_text Rl) (p_orchard : pd_orchard Rl) (p_law : pd_law Rl) (p_won : pd_won Rl) (p_go : pd_go Rl) (p_stay : pd_stay Rl) (p_press : pd_press Rl) (p_evening : pd_evening Rl) (p_march : pd_march Rl) (p_undo : pd_undo Rl) (p_log : pd_log Rl) (p_escorts : pd_escorts Rl) (p_loophole : pd_loophole Rl) (p_closed : pd_closed Rl) (p_reads : pd_reads Rl) (p_away : pd_away Rl) (p_forced : pd_forced Rl) (p_soonest : pd_soonest Rl) (p_pony : pd_pony Rl) (p_gets : pd_gets Rl) (p_resting : pd_resting Rl) (p_letter : pd_letter Rl) (p_fit : pd_fit Rl) (p_ask : pd_ask Rl) (p_odds : pd_odds Rl) (p_hurry : pd_hurry Rl) (p_behind : pd_behind Rl) (p_next : pd_next Rl) (p_last : pd_last Rl) (p_even : pd_even Rl) (p_sure : pd_sure Rl) (p_weary : pd_weary Rl) (p_ahead : pd_ahead Rl) (p_meeting : pd_meeting Rl) (p_image : pd_image Rl) (p_back : pd_back Rl) (p_count : pd_count Rl) (h_man : py_man Rl) (h_duel : py_duel Rl) (h_champion : py_champion Rl) (h_treaty : py_treaty Rl) (h_victors : py_victors Rl) (l : Launch) (hst : l.stackTraces = false) : Comes l x (Jvm.Cond.code x code maxLocals ret :: tables_1) room_1 (fun tb e args s => Calls_1 tb e args s ∧ rest_1 tb e args s ∧ Pre_1 tb e args s)
    (fun _ _ args s o t => lw_Q args s o t) := by
  intro p e ha hc hk s m args below hf hfit hheap happ hpre
  obtain ⟨b, xs, hP⟩ := lw_pre_spec hpre.2.2 hpre.2.1
  obtain ⟨k, o, h1, h2, h3, hQ⟩ := lw_walk2 Rl h0 p_feed p_end p_fault p_text p_orchard p_law p_won p_go p_stay p_press p_evening p_march p_undo p_log p_escorts p_loophole p_closed p_reads p_away p_forced p_soonest p_pony p_gets p_resting p_letter p_fit p_ask p_odds p_hurry p_behind p_next p_last p_even p_sure p_weary p_ahead p_meeting p_image p_back p_count h_man h_duel h_champion h_treaty h_victors l hst b xs p e ha hc hk s m args below hf ((Spec.applies_iff_loose hf).mp happ).1 hP trivial
  exact ⟨k, o, h1, h2, h3, hQ⟩
theorem lw_limb2 (Rl : am_Rl) (h0 : Rl false (am_IL IIC_33) am_L0 (am_IL IIM_1) am_L0) (p_feed : pd_feed Rl) (p_end : pd_end Rl) (p_fault : pd_fault Rl) (p_text : pd_text Rl) (p_orchard : pd_orchard Rl) (p_law : pd_law Rl) (p_won : pd_won Rl) (p_go : pd_go Rl) (p_stay : pd_stay Rl) (p_press : pd_press Rl) (p_evening : pd_evening Rl) (p_march : pd_march Rl) (p_undo : pd_undo Rl) (p_log : pd_log Rl) (p_escorts : pd_escorts Rl) (p_loophole : pd_loophole Rl) (p_closed : pd_closed Rl) (p_reads : pd_reads Rl) (p_away : pd_away Rl) (p_forced : pd_forced Rl) (p_soonest : pd_soonest Rl) (p_pony : pd_pony Rl) (p_gets : pd_gets Rl) (p_resting : pd_resting Rl) (p_letter : pd_letter Rl) (p_fit : pd_fit Rl) (p_ask : pd_ask Rl) (p_odds : pd_odds Rl) (p_hurry : pd_hurry Rl) (p_behind : pd_behind Rl) (p_next : pd_next Rl) (p_last : pd_last Rl) (p_even : pd_even Rl) (p_sure : pd_sure Rl) (p_weary : pd_weary Rl) (p_ahead : pd_ahead Rl) (p_meeting : pd_meeting Rl) (p_image : pd_image Rl) (p_back : pd_back Rl) (p_count : pd_count Rl) (h_man : py_man Rl) (h_duel : py_duel Rl) (h_champion : py_champion Rl) (h_treaty : py_treaty Rl) (h_victors : py_victors Rl) (L : Cond) (hL : ∀ (args : Array Value) (s t : State), L.after args s (.returned (some (.int 1))) t = true) :
    ArmFor flags0 classFile x code maxLocals ret World_1 tables_1 room_1 Calls_1 rest_1 Pre_1
      (fun tb e a s o t => postC L tb e a s o t ∧ Framed s o t (fieldLocs frame_1_writes a s ++ arrayLocs frame_1_arrays a s ++ staticLocs frame_1_statics s) 601024 7293034) := by
  intro l hfl _ _ p e ha hc hk s m args below hf hfit hheap happ hpre
  obtain ⟨k, o, h1, h2, h3, rfl, hF⟩ := lw_comes2 Rl h0 p_feed p_end p_fault p_text p_orchard p_law p_won p_go p_stay p_press p_evening p_march p_undo p_log p_escorts p_loophole p_closed p_reads p_away p_forced p_soonest p_pony p_gets p_resting p_letter p_fit p_ask p_odds p_hurry p_behind p_next p_last p_even p_sure p_weary p_ahead p_meeting p_image p_back p_count h_man h_duel h_champion h_treaty h_victors l (by unfold Launch.stackTraces; rw [hfl]; decide +kernel) p e ha hc hk s m args below hf hfit hheap happ hpre
  exact ⟨k, _, h1, h2, h3, hL args s _, lw_frame hF⟩
theorem claim_of2 (Rl : am_Rl) (h0 : Rl false (am_IL IIC_33) am_L0 (am_IL IIM_1) am_L0) (p_feed : pd_feed Rl) (p_end : pd_end Rl) (p_fault : pd_fault Rl) (p_text : pd_text Rl) (p_orchard : pd_orchard Rl) (p_law : pd_law Rl) (p_won : pd_won Rl) (p_go : pd_go Rl) (p_stay : pd_stay Rl) (p_press : pd_press Rl) (p_evening : pd_evening Rl) (p_march : pd_march Rl) (p_undo : pd_undo Rl) (p_log : pd_log Rl) (p_escorts : pd_escorts Rl) (p_loophole : pd_loophole Rl) (p_closed : pd_closed Rl) (p_reads : pd_reads Rl) (p_away : pd_away Rl) (p_forced : pd_forced Rl) (p_soonest : pd_soonest Rl) (p_pony : pd_pony Rl) (p_gets : pd_gets Rl) (p_resting : pd_resting Rl) (p_letter : pd_letter Rl) (p_fit : pd_fit Rl) (p_ask : pd_ask Rl) (p_odds : pd_odds Rl) (p_hurry : pd_hurry Rl) (p_behind : pd_behind Rl) (p_next : pd_next Rl) (p_last : pd_last Rl) (p_even : pd_even Rl) (p_sure : pd_sure Rl) (p_weary : pd_weary Rl) (p_ahead : pd_ahead Rl) (p_meeting : pd_meeting Rl) (p_image : pd_image Rl) (p_back : pd_back Rl) (p_count : pd_count Rl) (h_man : py_man Rl) (h_duel : py_duel Rl) (h_champion : py_champion Rl) (h_treaty : py_treaty Rl) (h_victors : py_victors Rl) : Claimed_1_1 ∧ Claimed_1_2 := ⟨lw_limb2 Rl h0 p_feed p_end p_fault p_text p_orchard p_law p_won p_go p_stay p_press p_evening p_march p_undo p_log p_escorts p_loophole p_closed p_reads p_away p_forced p_soonest p_pony p_gets p_resting p_letter p_fit p_ask p_odds p_hurry p_behind p_next p_last p_even p_sure p_weary p_ahead p_meeting p_image p_back p_count h_man h_duel h_champion h_treaty h_victors limb_1_1 (fun args s t => by simp [limb_1_1, Cond.after, Cond.holds, Cond.value]), lw_limb2 Rl h0 p_feed p_end p_fault p_text p_orchard p_law p_won p_go p_stay p_press p_evening p_march p_undo p_log p_escorts p_loophole p_closed p_reads p_away p_forced p_soonest p_pony p_gets p_resting p_letter p_fit p_ask p_odds p_hurry p_behind p_next p_last p_even p_sure p_weary p_ahead p_meeting p_image p_back p_count h_man h_duel h_champion h_treaty h_victors limb_1_2 (fun args s t => Cond.after_iff.mpr (by
  first | (rw [show limb_1_2 = Cond.eq .result (.int 1) from rfl, Cond.eq_ints (x := 1) (y := 1) rfl rfl]; simp; done) | (simp [limb_1_2, Cond.value, Term.eval]; done)))⟩
