/-! THE LAW'S CASE OF man -/
theorem lgc_refl (u : Int64) : lg_cmp u u = 0 := by
  unfold lg_cmp
  simp
theorem kn_1764 : lw_tbl[1764]? = some (Cond.methodLink RL 43 yX12_man) := by decide +kernel
theorem kn_1610 : lw_tbl[1610]? = some (Cond.methodLink RL 44 yX12_thrown) := by decide +kernel
def py_man (Rl : am_Rl) : Prop := ∀ (x : am_X) (Q : State → Prop) (L : Nat) (xs : Nat → Int32), am_ok x cL_law yL_law 7 (some .boolean) 2048 601024 7293034 → am_sc x L xs → x.2.1.stackTraces = false → am_ct x → ∀ (iv : Int32) (hin1 : vp_in (iv + (1 : Int32)) L) (hin2 : vp_in (iv + (2 : Int32)) L) (hin3 : vp_in (iv + (3 : Int32)) L) (al : Bool) (IC : am_I) (LC : am_L) (IM : am_I) (LM : am_L) (o : Int64) (nc ns : Nat), nc + 8 ≤ 601024 ∧ ns + 12000 ≤ 7293034 → Rl al IC LC IM LM → (∀ (al : Bool) (IC : am_I) (LC : am_L) (IM : am_I) (LM : am_L) (o : Int64) (nc' ns' : Nat), nc' ≤ nc + 8 → ns' ≤ ns + 12000 → Rl al IC LC IM LM → am_JL x Q 1556 [some (.ref 1000020), some (.ref 500000), some (.ref 500001), some (.ref 500002), some (.int iv), none, none] [] al IC LC IM LM o nc' ns') → am_JL x Q 384 [some (.ref 1000020), some (.ref 500000), some (.ref 500001), some (.ref 500002), some (.int iv), none, none] [] al IC LC IM LM o nc ns
set_option maxRecDepth 100000 in
set_option maxHeartbeats 4000000 in
theorem ly_man {Rl : am_Rl} (hp : pe_man Rl) : py_man Rl := by
  intro x Q L xs hc hX hst hct iv hin1 hin2 hin3 al IC LC IM LM o nc ns hnc hR kk
  obtain ⟨IM', w, e2, hR2, hh⟩ := hp al IC LC IM LM (xs (iv + (1 : Int32)).toNatClampNeg) (xs (iv + (2 : Int32)).toNatClampNeg) hR
  have e3 : fX12_thrown am_N 1900 IM' LM = some (IM' 0 0, IM', LM) := rfl
  have hn2 : nc + 1 ≤ 601024 ∧ ns + 6 ≤ 7293034 := ⟨by omega, by omega⟩
  have key : ∀ (r : Int32) (o' : Int64), r = IM' 0 0 → (r = 0 → o' = w.toInt64) → am_JL x Q 401 [some (.ref 1000020), some (.ref 500000), some (.ref 500001), some (.ref 500002), some (.int iv), none, none] [.int r] al IC LC IM LM o' (nc + 1) (ns + 6) := by
    intro r o' hr ho
    refine l_istore (i := 5) hc dL_law_401 (by decide) ?_
    refine l_aload_n hc dL_law_403 rfl ?_
    refine l_aload_n hc dL_law_404 rfl ?_
    refine l_iload hc dL_law_405 rfl ?_
    refine l_iconst (v := (1 : Int32)) hc dL_law_407 ci_1 ?_
    refine l_iadd hc dL_law_408 ?_
    refine l_sld hc hX dL_law_409 hin1 ?_
    refine l_aload_n hc dL_law_410 rfl ?_
    refine l_iload hc dL_law_411 rfl ?_
    refine l_iconst (v := (2 : Int32)) hc dL_law_413 ci_2 ?_
    refine l_iadd hc dL_law_414 ?_
    refine l_sld hc hX dL_law_415 hin2 ?_
    refine l_callM (As := [.int (xs (iv + (1 : Int32)).toNatClampNeg), .int (xs (iv + (2 : Int32)).toNatClampNeg)]) hc dL_law_416 (am_mem 1764 kn_1764 rfl) mX12_man kM_0 clX12 rfl rfl (by decide) (by decide) (Nat.le_of_ble_eq_true rfl) hn2 (qX12_man x.2.1 am_N 1900 (xs (iv + (1 : Int32)).toNatClampNeg) (xs (iv + (2 : Int32)).toNatClampNeg) IM LM w IM' LM e2) ?_
    refine l_istore (i := 6) hc dL_law_419 (by decide) ?_
    refine l_aload_n hc dL_law_421 rfl ?_
    refine l_callM (As := []) hc dL_law_422 (am_mem 1610 kn_1610 rfl) mX12_thrown kM_0 clX12 rfl rfl (by decide) (by decide) (Nat.le_of_ble_eq_true rfl) hn2 (qX12_thrown x.2.1 am_N 1900 IM' LM (IM' 0 0) IM' LM e3) ?_
    refine l_iload hc dL_law_425 rfl ?_
    refine l_icmp_eq (tgt := 432) hc dL_law_427 rfl (fun _ => ?_) (fun q => absurd hr.symm q)
    refine l_iload hc dL_law_432 rfl ?_
    have fin : am_JL x Q 449 [some (.ref 1000020), some (.ref 500000), some (.ref 500001), some (.ref 500002), some (.int iv), some (.int r), some (.int w)] [] al IC LC IM' LM o' (nc + 1) (ns + 6) := by
      refine l_goto (tgt := 1556) hc dL_law_449 rfl ?_
      exact l_sub (kk al IC LC IM' LM o' (nc + 1) (ns + 6) (by omega) (by omega) hR2) ⟨rfl, rfl, rfl, rfl, rfl, trivial⟩
    refine l_if_ne (tgt := 449) hc dL_law_434 rfl (fun _ => fin) (fun q => ?_)
    refine l_aload_n hc dL_law_437 rfl ?_
    refine l_iconst (v := (0 : Int32)) hc dL_law_438 ci_0 ?_
    refine l_oald hc dL_law_439 ?_
    refine l_iload hc dL_law_440 rfl ?_
    refine l_i2l hc dL_law_442 ?_
    refine l_lcmp hc dL_law_443 ?_
    refine l_if_eq (tgt := 449) hc dL_law_444 rfl (fun _ => fin) (fun z => absurd ?_ z)
    rw [ho q]
    exact lgc_refl _
  refine l_aload_n hc dL_law_384 rfl ?_
  refine l_aload_n hc dL_law_385 rfl ?_
  refine l_iload hc dL_law_386 rfl ?_
  refine l_iconst (v := (1 : Int32)) hc dL_law_388 ci_1 ?_
  refine l_iadd hc dL_law_389 ?_
  refine l_sld hc hX dL_law_390 hin1 ?_
  refine l_aload_n hc dL_law_391 rfl ?_
  refine l_iload hc dL_law_392 rfl ?_
  refine l_iconst (v := (2 : Int32)) hc dL_law_394 ci_2 ?_
  refine l_iadd hc dL_law_395 ?_
  refine l_sld hc hX dL_law_396 hin2 ?_
  refine l_aload_n hc dL_law_397 rfl ?_
  have kl := kC_len al
  rcases hh with ⟨z, hv⟩ | ⟨z, v, hv, hb⟩
  · refine l_man (r := 0) (o' := w.toInt64) (L9 := am_uL (lX al LC o) (KC al).length 0 w.toInt64) hc hct hst ?_ (fun k hk => ?_) (Nat.zero_le _) hn2 (Or.inl ⟨w, hv _, rfl, rfl⟩) (key 0 _ z.symm (fun _ => rfl))
    · rw [am_uL_eq]; simp [vp_updL]
    · rw [am_uL_ne (by omega)]; exact if_neg (by omega)
  · refine l_man (r := 1) (o' := o) (L9 := lX al LC o) hc hct hst ?_ (fun k hk => if_neg (by omega)) (Nat.zero_le _) hn2 (Or.inr ⟨v, hv _, hb, rfl, rfl⟩) (key 1 _ z.symm (fun q => absurd q (by decide)))
    exact (congrFun (if_pos rfl : lX al LC o (KC al).length = fun _ => o) 0).symm
