def am_sd (t : FieldType) : Option Nat := match t with
  | .int => some 0
  | .boolean => some 0
  | .long => some 1
  | .object _ => some 2
  | .array _ => some 2
  | _ => none
theorem am_dflt {ty0 : Nat → FieldType} {ts : List Nat} {N : Nat} (h : ∀ j, j < N → am_sd (ty0 j) = ts[j]? ∧ (am_sd (ty0 j)).isSome = true) (a : Nat → Nat) (n : Nat) : ∀ j, j < N → defaultValue (ty0 j) = vp_V (am_fs a (fun _ _ => none) (fun _ _ => 0) (fun _ _ => 0) n ts) j := by
  intro j hj
  obtain ⟨h1, h3⟩ := h j hj
  unfold vp_V
  rw [List.getD_eq_getElem?_getD]
  generalize hty : ty0 j = t at h1 h3
  cases t <;> first | (rw [am_fs_at h1.symm]; rfl) | (cases h3)
theorem kp_116 : lw_tbl[116]? = some (Cond.initialized RX11) := by decide +kernel
theorem kp_128 : lw_tbl[128]? = some (Cond.initialized RX12) := by decide +kernel
theorem kp_141 : lw_tbl[141]? = some (Cond.classLink RL 8 RX11) := by decide +kernel
theorem kp_142 : lw_tbl[142]? = some (Cond.instantiable RX11 15) := by decide +kernel
theorem kp_143 : lw_tbl[143]? = some (Cond.methodLink RL 15 yX11_init) := by decide +kernel
theorem kp_144 : lw_tbl[144]? = some (Cond.instanceMethod yX11_init) := by decide +kernel
theorem kp_145 : lw_tbl[145]? = some (Cond.code yX11_init cX11_init 1 none) := by decide +kernel
theorem kp_416 : lw_tbl[416]? = some (Cond.arrayClass .long) := by decide +kernel
theorem kp_1470 : lw_tbl[1470]? = some (Cond.classLink RL 16 RX12) := by decide +kernel
theorem kp_1471 : lw_tbl[1471]? = some (Cond.instantiable RX12 44) := by decide +kernel
theorem kp_1472 : lw_tbl[1472]? = some (Cond.methodLink RL 18 yX12_init) := by decide +kernel
theorem kp_1473 : lw_tbl[1473]? = some (Cond.instanceMethod yX12_init) := by decide +kernel
theorem kp_1474 : lw_tbl[1474]? = some (Cond.code yX12_init cX12_init 1 none) := by decide +kernel
set_option maxRecDepth 100000 in
set_option maxHeartbeats 8000000 in
/-- from the place behind the class's making: the model is made, and the row out, and the loop begins -/
theorem law_pre2 {x : am_X} {Q : State → Prop} (hc : am_ok x cL_law yL_law 7 (some .boolean) 2048 601024 7293034) {IC : am_I} {nc ns : Nat} (hnc : nc + 27 ≤ 601024 ∧ ns + 104784 ≤ 7293034) (hk0 : am_k0 x = fun k => 1000000 ≤ k) (hloop : am_JL x Q 23 [some (.ref 1000020), some (.ref 500000), some (.ref 500001), some (.ref 500002), some (.int 0), none, none] [] false IC am_L0 (am_IL IIM_1) am_L0 0 (nc + 27) (ns + 104784)) :
    am_JQ x Q 8 [some (.ref 1000020), some (.ref 0), none, none, none, none, none] [] (KC false) (RC false) IC am_L0 nc ns := by
  obtain ⟨p, l, e, Rm, s, m, args, below, meth, c, D, G, A, a0, k0, mc9, ms9⟩ := x
  obtain ⟨hx, hb, hown, hts, hr, hlocks, hK, hA, hfr, hlo, hm, hml, hnm, hE, hk9⟩ := hc
  have hk0 : k0 = fun k => 1000000 ≤ k := hk0
  intro a H ls locs h1 hP hD hS hl
  have hmc := hm.2.2.1
  have hms := hm.2.2.2
  refine va_new (c0 := c) (ci := 12) (fs := am_fs a0 (am_RL RIM_0) (am_IL IIM_0) am_L0 0 [0, 2, 0, 0, 0, 0, 2, 2, 2, 2, 2, 2, 2, 0, 0, 2, 2, 2, 2, 2, 0, 0, 2, 2, 2, 0, 0, 2, 0, 2, 0, 1, 2, 2, 0, 0, 0, 2, 2, 0, 2, 2, 2, 0]) (C := RX12) (T := TX12) (N := 44) hx hb hts inX12 tyX12 tyX12_ok hown (hts _ (am_mem 1470 kp_1470 rfl)) (hts _ (am_mem 1471 kp_1471 rfl)) (hts _ (am_mem 128 kp_128 rfl)) hK hP hD hS hA clX12 (am_dflt (by decide) a0 0) (by omega) (by omega) dL_law_8 (fun q H1 hP1 hD1 hS1 => ?_)
  refine lv_dup hx hb dL_law_11 rfl ?_
  have ew : am_ws G (fun k => if k = 0 then q else a0 k) KIM_1 (am_RL RIM_0) (am_IL IIM_0) am_L0 = [(q, .inr (12, am_fs a0 (am_RL RIM_0) (am_IL IIM_0) am_L0 0 [0, 2, 0, 0, 0, 0, 2, 2, 2, 2, 2, 2, 2, 0, 0, 2, 2, 2, 2, 2, 0, 0, 2, 2, 2, 0, 0, 2, 0, 2, 0, 1, 2, 2, 0, 0, 0, 2, 2, 0, 2, 2, 2, 0]))] := by
    have e1 : KIM_1 = [] ++ [.inl (12, [0, 2, 0, 0, 0, 0, 2, 2, 2, 2, 2, 2, 2, 0, 0, 2, 2, 2, 2, 2, 0, 0, 2, 2, 2, 0, 0, 2, 0, 2, 0, 1, 2, 2, 0, 0, 0, 2, 2, 0, 2, 2, 2, 0])] := rfl
    rw [e1, am_ws_app]
    have e2 : am_e G (fun k => if k = 0 then q else a0 k) (am_RL RIM_0) (am_IL IIM_0) am_L0 ([] : List am_k).length (.inl (12, [0, 2, 0, 0, 0, 0, 2, 2, 2, 2, 2, 2, 2, 0, 0, 2, 2, 2, 2, 2, 0, 0, 2, 2, 2, 0, 0, 2, 0, 2, 0, 1, 2, 2, 0, 0, 0, 2, 2, 0, 2, 2, 2, 0])) = am_e G a0 (am_RL RIM_0) (am_IL IIM_0) am_L0 0 (.inl (12, [0, 2, 0, 0, 0, 0, 2, 2, 2, 2, 2, 2, 2, 0, 0, 2, 2, 2, 2, 2, 0, 0, 2, 2, 2, 0, 0, 2, 0, 2, 0, 1, 2, 2, 0, 0, 0, 2, 2, 0, 2, 2, 2, 0])) := am_e_as (fun j u h => by cases h)
    rw [e2]
    rfl
  have hPm : va_P D vwCl (am_ws G (fun k => if k = 0 then q else a0 k) KIM_1 (am_RL RIM_0) (am_IL IIM_0) am_L0 ++ am_ws G a (KC false) (RC false) IC am_L0) H1 := by rw [ew]; exact am_comm hP1
  have hDm : va_D A (am_ws G (fun k => if k = 0 then q else a0 k) KIM_1 (am_RL RIM_0) (am_IL IIM_0) am_L0 ++ am_ws G a (KC false) (RC false) IC am_L0) := by rw [ew]; exact am_Dc hD1
  have hP2 := am_Pl hPm
  have hD2 := am_Dl hDm
  have hC := qiM_1_26 l 1900 D G (fun k => if k = 0 then q else a0 k) H1.size
  have hFc : ∀ q', va_A (am_ws G (fun k => if k = 0 then q else a0 k) KIM_1 (am_RL RIM_0) (am_IL IIM_0) am_L0) H1.size q' → A q' := fun q' h => h.elim (fun ⟨k, e, h⟩ => hD2.2 k (q', e) h) (fun h => hA q' (Nat.le_trans hS1.1 h))
  obtain ⟨hcd, hin, hini, hnam, hds⟩ : am_mi yX12_init cX12_init 1 0 := ⟨am_mem 1474 kp_1474 rfl, (am_mem 1473 kp_1473 rfl), (am_mem 128 kp_128 rfl), rfl, by decide, by decide, by decide +kernel⟩
  have hGd : GoodIn am_gd (am_wd yX12_init cX12_init 1 none) := fun w h => ⟨(List.mem_cons.mp h).elim (fun q => q ▸ hcd) (fun q => q), good_of_word ((List.mem_cons.mp h).elim (fun q => q ▸ rfl) (fun q => List.all_eq_true.mp am_good w q))⟩
  refine am_run (va_runI (n := 0) (As := []) (rest := [.ref q]) ⟨hx, hb, rfl, hown, hts⟩ hC ⟨callB_of 0 hts hGd rfl rfl rfl (hts _ hini) (hts _ (am_mem 1472 kp_1472 rfl)) hds ⟨by show 1900 + _ + 1 ≤ _; omega, by show 8 + (_ + 11) + 40 * (1900 + _) ≤ _; omega⟩, hnam, hts _ hin⟩ ⟨fun a U g mk q => by obtain ⟨q0, q1, qP, qK, qD, qE⟩ := q; exact ⟨q0, q1, qP, va_K.moved (u := U) (U := U.calling g mk a) (Vm.Alike.refl U.vm) qK, qD, am_E_same (s := U) (U := U.calling g mk a) rfl qE⟩, fun U hU hW => ⟨rfl, by rw [hU], by rw [hU]; exact hP2, va_K.moved hW.alike hK, hD2.weaken (fun _ _ _ _ => trivial), by rw [hU]; exact am_E_warm hW (am_E_call hS1 hFc (am_E_at (a := a0) (fun k q => by show (if k = 0 then _ else a0 k) = a0 k; rw [if_neg (by omega)]) hE))⟩⟩ rfl rfl hl.1 rfl (lv_room (Nat.le_of_ble_eq_true rfl)) dL_law_12 ⟨by omega, by omega⟩) hS1 (fun q _ h => hFc q h) hFc (fun aM res9 t H3 locs3 ht hres9 h2 hP3 hD3 hS3 hk3 => ?_)
  subst hres9
  obtain ⟨hP4, hD4⟩ := am_join hPm hDm hk3 hFc (by rw [← ht]; exact hP3) hD3
  have eM0 : aM 0 = q := h2 0 (Or.inl (by decide))
  have hl0 : lv_has ls 7 [(0, .ref (a 1000020)), (1, .ref (a 0))] := ⟨hl.1.trans hml, hl.2.1, fun z hz => by
    rcases List.mem_cons.mp hz with rfl | hz
    · exact hl.2.2 0 (.ref 1000020) rfl
    · rcases List.mem_cons.mp hz with rfl | hz
      · exact hl.2.2 1 (.ref 0) rfl
      · cases hz⟩
  refine lv_astore_n (lv' := [(2, .ref q), (0, .ref (a 1000020)), (1, .ref (a 0))]) hx hb dL_law_15 rfl hl0 (by decide) rfl (fun ls hl1 => ?_)
  refine lv_iconst (v := 1) hx hb dL_law_16 (by decide) ?_
  refine va_newa (atype := .long) (ty := .long) (a0 := (1, .inr (.inl (fun _ => 0)))) (N' := 1) hx hb (hts _ (am_mem 416 kp_416 rfl)) rfl hK hP4 hD4 hS3 hA (fun _ => rfl) (by decide) rfl (by decide) (by omega) (by omega) dL_law_17 (fun q2 cA H5 hK5 hP5 hD5 hS5 => ?_)
  have eA : cA = G.2.1 := Option.some.inj ((hK5.2 3 _ rfl).2.symm.trans (hK.2 1 _ rfl).2)
  subst eA
  refine lv_astore_n (lv' := [(3, .ref q2), (2, .ref q), (0, .ref (a 1000020)), (1, .ref (a 0))]) hx hb dL_law_19 rfl hl1 (by decide) rfl (fun ls hl2 => ?_)
  refine lv_iconst (v := 0) hx hb dL_law_20 (by decide) ?_
  refine lv_istore (lv' := [(4, .int 0), (3, .ref q2), (2, .ref q), (0, .ref (a 1000020)), (1, .ref (a 0))]) hx hb dL_law_21 hl2 (by decide) rfl (fun ls hl3 => ?_)
  have hin9 : ∀ k, k0 k → 1000000 ≤ k := fun k h => by rw [hk0] at h; exact h
  have e20 : a 1000020 = a0 1000020 := h1 _ (hk9 _ (by decide))
  have key := hloop (fun k => if k = 500000 then a 0 else if k = 500001 then q else if k = 500002 then q2 else a0 k) a aM H5 ls locs3 ⟨fun k hk => by
      have := hin9 k hk
      show (if k = 500000 then _ else if k = 500001 then _ else if k = 500002 then _ else a0 k) = a0 k
      rw [if_neg (by omega), if_neg (by omega), if_neg (by omega)], h1, fun k hk => by
      have := hin9 k hk
      rw [h2 k (Or.inr this)]
      show (if k = 0 then _ else a0 k) = a0 k
      rw [if_neg (by omega)], rfl, eM0⟩ (am_comm (va_P.swap hP5)) (am_Dc (va_D.swap hD5)) hS5 ⟨hl3.1.trans hml.symm, hl3.2.1, fun i v hi => by
      match i, hi with
      | 0, hi => cases hi; have := hl3.2.2 (0, .ref (a 1000020)) (by simp); rw [e20] at this; exact this
      | 1, hi => cases hi; exact hl3.2.2 (1, .ref (a 0)) (by simp)
      | 2, hi => cases hi; exact hl3.2.2 (2, .ref q) (by simp)
      | 3, hi => cases hi; exact hl3.2.2 (3, .ref q2) (by simp)
      | 4, hi => cases hi; exact hl3.2.2 (4, .int 0) (by simp)
      | 5, hi => cases hi
      | 6, hi => cases hi
      | i + 7, hi => simp at hi⟩
  exact W.widen (by omega) (by omega) key

set_option maxRecDepth 100000 in
set_option maxHeartbeats 8000000 in
/-- from the entry -/
theorem law_pre1 {x : am_X} {Q : State → Prop} (hc : am_ok x cL_law yL_law 7 (some .boolean) 2048 601024 7293034) (hk0 : am_k0 x = fun k => 1000000 ≤ k) (hloop : am_JL x Q 23 [some (.ref 1000020), some (.ref 500000), some (.ref 500001), some (.ref 500002), some (.int 0), none, none] [] false (am_IL IIC_33) am_L0 (am_IL IIM_1) am_L0 0 94 107741) :
    am_JQ x Q 0 [some (.ref 1000020), none, none, none, none, none, none] [] [] (am_RL []) (am_IL []) am_L0 0 0 := by
  refine j_new (n := 0) (ci := 11) (ts := [2, 2, 2, 2, 2, 2, 2, 2, 2, 2, 2, 2, 2, 2, 1]) hc dL_law_0 rfl clX11 inX11 tyX11_ok ⟨(am_mem 141 kp_141 rfl), (am_mem 142 kp_142 rfl), (am_mem 116 kp_116 rfl)⟩ (fun j hj a => by match j, hj with | 0, _ => rfl | 1, _ => rfl | 2, _ => rfl | 3, _ => rfl | 4, _ => rfl | 5, _ => rfl | 6, _ => rfl | 7, _ => rfl | 8, _ => rfl | 9, _ => rfl | 10, _ => rfl | 11, _ => rfl | 12, _ => rfl | 13, _ => rfl | 14, _ => rfl) (am_IL_no rfl) rfl (am_RL_no rfl) (am_RL_ne rfl) (fun k hk e => by rw [hk0] at hk; omega) rfl ⟨by decide, by decide⟩ ?_
  refine j_dup hc dL_law_3 rfl ?_
  refine j_callI (host := RX11) (t := 0) (As := []) (n := 1) hc dL_law_4 (Or.inl (am_mem 143 kp_143 rfl)) ⟨am_mem 145 kp_145 rfl, (am_mem 144 kp_144 rfl), (am_mem 116 kp_116 rfl), rfl, by decide, by decide, by decide +kernel⟩ rfl rfl (fun k hk => by rw [hk0] at hk; exact Or.inr hk) rfl (by decide) (Nat.le_of_ble_eq_true rfl) (Nat.le_of_ble_eq_true rfl) ⟨by decide, by decide⟩ (qiC_1_67 x.2.1 1900) ?_
  refine j_astore_n hc dL_law_7 (by decide) ?_
  exact law_pre2 hc ⟨by decide, by decide⟩ hk0 hloop

