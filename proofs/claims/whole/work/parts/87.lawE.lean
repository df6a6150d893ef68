/-! THE LAW: its cases duel, champion, treaty, victors. -/
theorem am_ws_I {G : am_G} {a : Nat → Nat} {ks : List am_k} {R : am_R} {I I' : am_I} {L : am_L} (h : ∀ k, k < ks.length → I' k = I k) : am_ws G a ks R I' L = am_ws G a ks R I L := by
  apply List.ext_getElem?
  intro i
  simp only [am_ws, List.getElem?_mapIdx]
  cases hi : ks[i]? with
  | none => rfl
  | some d =>
    have e := h i (List.getElem?_eq_some_iff.mp hi).1
    have ef : ∀ ts, am_fs a R I' L i ts = am_fs a R I L i ts := fun ts => by
      unfold am_fs am_fv
      rw [e]
    simp only [Option.map_some]
    rcases d with ⟨ci, ts⟩ | ⟨_ | _ | n, q⟩ <;> simp [am_e, ef, e]
theorem l_zero {x : am_X} {Q : State → Prop} {pc : Nat} {lv : List (Option Value)} {st : List Value} {IC IZ : am_I} {LC : am_L} {IM : am_I} {LM : am_L} {o : Int64} {nc ns : Nat} (h : ∀ t, t < 67 → IZ t = IC t) (k : am_JL x Q pc lv st false IZ LC IM LM o nc ns) : am_JL x Q pc lv st false IC LC IM LM o nc ns := by
  obtain ⟨p, l, e, Rm, s, m, args, below, meth, c, D, G, A, a0, k0, mc9, ms9⟩ := x
  intro a aC aM H ls locs h1 hP hD hS hl
  have ew : am_wl G aC aM (a 500002) false IZ LC IM LM o = am_wl G aC aM (a 500002) false IC LC IM LM o := by
    unfold am_wl
    rw [am_ws_I (ks := KC false) (I := IC) (I' := IZ) (fun k hk => h k hk)]
  exact k a aC aM H ls locs h1 (by rw [ew]; exact hP) (by rw [ew]; exact hD) hS hl
theorem kv_1078 : lw_tbl[1078]? = some (Cond.methodLink RL 91 yX11_duel) := by decide +kernel
theorem kv_1918 : lw_tbl[1918]? = some (Cond.methodLink RL 95 yX12_duel) := by decide +kernel
def pe_duel (Rl : am_Rl) : Prop := ∀ (al : Bool) (IC : am_I) (LC : am_L) (IM : am_I) (LM : am_L) (e0 : Int32) (e1 : Int32) (e2 : Int32), Rl al IC LC IM LM → (al = true ∧ ∃ (r : Int32) (IC' : am_I) (LC' : am_L) (IM' : am_I) (LM' : am_L), fX11_duel_t am_N 1900 e0 e1 e2 IC LC = some (r, IC', LC') ∧ fX12_duel am_N 1900 e0 e1 e2 IM LM = some (r, IM', LM') ∧ Rl true IC' LC' IM' LM') ∨ (al = false ∧ ∃ (IZ : am_I) (r : Int32) (IC' : am_I) (LC' : am_L) (IM' : am_I) (LM' : am_L), (∀ t, t < 67 → IZ t = IC t) ∧ fX12_duel am_N 1900 e0 e1 e2 IM LM = some (r, IM', LM') ∧ ((fX11_duel_n am_N 1900 e0 e1 e2 IZ LC = some (r, IC', LC') ∧ Rl false IC' LC' IM' LM') ∨ (fX11_duel_s am_N 1900 e0 e1 e2 IZ LC = some (r, IC', LC') ∧ Rl true IC' LC' IM' LM')))
def py_duel (Rl : am_Rl) : Prop := ∀ (x : am_X) (Q : State → Prop) (L : Nat) (xs : Nat → Int32), am_ok x cL_law yL_law 7 (some .boolean) 2048 601024 7293034 → am_sc x L xs → x.2.1.stackTraces = false → (∀ k, am_k0 x k → 1000000 ≤ k) → ∀ (iv : Int32) (hin1 : vp_in (iv + (1 : Int32)) L) (hin2 : vp_in (iv + (2 : Int32)) L) (hin3 : vp_in (iv + (3 : Int32)) L) (al : Bool) (IC : am_I) (LC : am_L) (IM : am_I) (LM : am_L) (o : Int64) (nc ns : Nat), nc + 8 ≤ 601024 ∧ ns + 12000 ≤ 7293034 → Rl al IC LC IM LM → (∀ (al : Bool) (IC : am_I) (LC : am_L) (IM : am_I) (LM : am_L) (o : Int64) (nc' ns' : Nat), nc' ≤ nc + 8 → ns' ≤ ns + 12000 → Rl al IC LC IM LM → am_JL x Q 1556 [some (.ref 1000020), some (.ref 500000), some (.ref 500001), some (.ref 500002), some (.int iv), none, none] [] al IC LC IM LM o nc' ns') → am_JL x Q 746 [some (.ref 1000020), some (.ref 500000), some (.ref 500001), some (.ref 500002), some (.int iv), none, none] [] al IC LC IM LM o nc ns
set_option maxRecDepth 100000 in
set_option maxHeartbeats 4000000 in
theorem ly_duel {Rl : am_Rl} (hp : pe_duel Rl) : py_duel Rl := by
  intro x Q L xs hc hX hst hk0 iv hin1 hin2 hin3 al IC LC IM LM o nc ns hb hR kk
  have hnc : nc ≤ 601024 ∧ ns ≤ 7293034 := ⟨by omega, by omega⟩
  rcases hp al IC LC IM LM (xs (iv + (1 : Int32)).toNatClampNeg) (xs (iv + (2 : Int32)).toNatClampNeg) (xs (iv + (3 : Int32)).toNatClampNeg) hR with ⟨rfl, r, IC', LC', IM', LM', e1, e2, hR2⟩ | ⟨rfl, IZ, r, IC', LC', IM', LM', hI, e2, h⟩
  · refine l_aload_n hc dL_law_746 rfl ?_
    refine l_aload_n hc dL_law_747 rfl ?_
    refine l_iload hc dL_law_748 rfl ?_
    refine l_iconst (v := (1 : Int32)) hc dL_law_750 ci_1 ?_
    refine l_iadd hc dL_law_751 ?_
    refine l_sld hc hX dL_law_752 hin1 ?_
    refine l_aload_n hc dL_law_753 rfl ?_
    refine l_iload hc dL_law_754 rfl ?_
    refine l_iconst (v := (2 : Int32)) hc dL_law_756 ci_2 ?_
    refine l_iadd hc dL_law_757 ?_
    refine l_sld hc hX dL_law_758 hin2 ?_
    refine l_aload_n hc dL_law_759 rfl ?_
    refine l_iload hc dL_law_760 rfl ?_
    refine l_iconst (v := (3 : Int32)) hc dL_law_762 ci_3 ?_
    refine l_iadd hc dL_law_763 ?_
    refine l_sld hc hX dL_law_764 hin3 ?_
    refine l_callC (As := [.int (xs (iv + (1 : Int32)).toNatClampNeg), .int (xs (iv + (2 : Int32)).toNatClampNeg), .int (xs (iv + (3 : Int32)).toNatClampNeg)]) hc dL_law_765 (am_mem 1078 kv_1078 rfl) mX11_duel (kC_0 _) clX11 rfl rfl (by decide) (by decide) (Nat.le_of_ble_eq_true rfl) hnc (qX11_duel_t x.2.1 am_N 1900 (xs (iv + (1 : Int32)).toNatClampNeg) (xs (iv + (2 : Int32)).toNatClampNeg) (xs (iv + (3 : Int32)).toNatClampNeg) IC LC r IC' LC' e1) ?_
    refine l_aload_n hc dL_law_768 rfl ?_
    refine l_aload_n hc dL_law_769 rfl ?_
    refine l_iload hc dL_law_770 rfl ?_
    refine l_iconst (v := (1 : Int32)) hc dL_law_772 ci_1 ?_
    refine l_iadd hc dL_law_773 ?_
    refine l_sld hc hX dL_law_774 hin1 ?_
    refine l_aload_n hc dL_law_775 rfl ?_
    refine l_iload hc dL_law_776 rfl ?_
    refine l_iconst (v := (2 : Int32)) hc dL_law_778 ci_2 ?_
    refine l_iadd hc dL_law_779 ?_
    refine l_sld hc hX dL_law_780 hin2 ?_
    refine l_aload_n hc dL_law_781 rfl ?_
    refine l_iload hc dL_law_782 rfl ?_
    refine l_iconst (v := (3 : Int32)) hc dL_law_784 ci_3 ?_
    refine l_iadd hc dL_law_785 ?_
    refine l_sld hc hX dL_law_786 hin3 ?_
    refine l_callM (As := [.int (xs (iv + (1 : Int32)).toNatClampNeg), .int (xs (iv + (2 : Int32)).toNatClampNeg), .int (xs (iv + (3 : Int32)).toNatClampNeg)]) hc dL_law_787 (am_mem 1918 kv_1918 rfl) mX12_duel kM_0 clX12 rfl rfl (by decide) (by decide) (Nat.le_of_ble_eq_true rfl) hnc (qX12_duel x.2.1 am_N 1900 (xs (iv + (1 : Int32)).toNatClampNeg) (xs (iv + (2 : Int32)).toNatClampNeg) (xs (iv + (3 : Int32)).toNatClampNeg) IM LM r IM' LM' e2) ?_
    exact l_icmp_eq (tgt := 1556) hc dL_law_790 rfl (fun _ => kk _ _ _ _ _ _ _ _ (by omega) (by omega) hR2) (fun q => absurd rfl q)
  · refine l_zero hI ?_
    rcases h with ⟨e1, hR2⟩ | ⟨e1, hR2⟩
    · refine l_aload_n hc dL_law_746 rfl ?_
      refine l_aload_n hc dL_law_747 rfl ?_
      refine l_iload hc dL_law_748 rfl ?_
      refine l_iconst (v := (1 : Int32)) hc dL_law_750 ci_1 ?_
      refine l_iadd hc dL_law_751 ?_
      refine l_sld hc hX dL_law_752 hin1 ?_
      refine l_aload_n hc dL_law_753 rfl ?_
      refine l_iload hc dL_law_754 rfl ?_
      refine l_iconst (v := (2 : Int32)) hc dL_law_756 ci_2 ?_
      refine l_iadd hc dL_law_757 ?_
      refine l_sld hc hX dL_law_758 hin2 ?_
      refine l_aload_n hc dL_law_759 rfl ?_
      refine l_iload hc dL_law_760 rfl ?_
      refine l_iconst (v := (3 : Int32)) hc dL_law_762 ci_3 ?_
      refine l_iadd hc dL_law_763 ?_
      refine l_sld hc hX dL_law_764 hin3 ?_
      refine l_callC (As := [.int (xs (iv + (1 : Int32)).toNatClampNeg), .int (xs (iv + (2 : Int32)).toNatClampNeg), .int (xs (iv + (3 : Int32)).toNatClampNeg)]) hc dL_law_765 (am_mem 1078 kv_1078 rfl) mX11_duel (kC_0 _) clX11 rfl rfl (by decide) (by decide) (Nat.le_of_ble_eq_true rfl) hnc (qX11_duel_n x.2.1 am_N 1900 (xs (iv + (1 : Int32)).toNatClampNeg) (xs (iv + (2 : Int32)).toNatClampNeg) (xs (iv + (3 : Int32)).toNatClampNeg) IZ LC r IC' LC' e1) ?_
      refine l_aload_n hc dL_law_768 rfl ?_
      refine l_aload_n hc dL_law_769 rfl ?_
      refine l_iload hc dL_law_770 rfl ?_
      refine l_iconst (v := (1 : Int32)) hc dL_law_772 ci_1 ?_
      refine l_iadd hc dL_law_773 ?_
      refine l_sld hc hX dL_law_774 hin1 ?_
      refine l_aload_n hc dL_law_775 rfl ?_
      refine l_iload hc dL_law_776 rfl ?_
      refine l_iconst (v := (2 : Int32)) hc dL_law_778 ci_2 ?_
      refine l_iadd hc dL_law_779 ?_
      refine l_sld hc hX dL_law_780 hin2 ?_
      refine l_aload_n hc dL_law_781 rfl ?_
      refine l_iload hc dL_law_782 rfl ?_
      refine l_iconst (v := (3 : Int32)) hc dL_law_784 ci_3 ?_
      refine l_iadd hc dL_law_785 ?_
      refine l_sld hc hX dL_law_786 hin3 ?_
      refine l_callM (As := [.int (xs (iv + (1 : Int32)).toNatClampNeg), .int (xs (iv + (2 : Int32)).toNatClampNeg), .int (xs (iv + (3 : Int32)).toNatClampNeg)]) hc dL_law_787 (am_mem 1918 kv_1918 rfl) mX12_duel kM_0 clX12 rfl rfl (by decide) (by decide) (Nat.le_of_ble_eq_true rfl) hnc (qX12_duel x.2.1 am_N 1900 (xs (iv + (1 : Int32)).toNatClampNeg) (xs (iv + (2 : Int32)).toNatClampNeg) (xs (iv + (3 : Int32)).toNatClampNeg) IM LM r IM' LM' e2) ?_
      exact l_icmp_eq (tgt := 1556) hc dL_law_790 rfl (fun _ => kk _ _ _ _ _ _ _ _ (by omega) (by omega) hR2) (fun q => absurd rfl q)
    · have hnc2 : nc + 2 ≤ 601024 ∧ ns + 11250 ≤ 7293034 := ⟨by omega, by omega⟩
      refine l_aload_n hc dL_law_746 rfl ?_
      refine l_aload_n hc dL_law_747 rfl ?_
      refine l_iload hc dL_law_748 rfl ?_
      refine l_iconst (v := (1 : Int32)) hc dL_law_750 ci_1 ?_
      refine l_iadd hc dL_law_751 ?_
      refine l_sld hc hX dL_law_752 hin1 ?_
      refine l_aload_n hc dL_law_753 rfl ?_
      refine l_iload hc dL_law_754 rfl ?_
      refine l_iconst (v := (2 : Int32)) hc dL_law_756 ci_2 ?_
      refine l_iadd hc dL_law_757 ?_
      refine l_sld hc hX dL_law_758 hin2 ?_
      refine l_aload_n hc dL_law_759 rfl ?_
      refine l_iload hc dL_law_760 rfl ?_
      refine l_iconst (v := (3 : Int32)) hc dL_law_762 ci_3 ?_
      refine l_iadd hc dL_law_763 ?_
      refine l_sld hc hX dL_law_764 hin3 ?_
      refine l_callCE (n := 67) (As := [.int (xs (iv + (1 : Int32)).toNatClampNeg), .int (xs (iv + (2 : Int32)).toNatClampNeg), .int (xs (iv + (3 : Int32)).toNatClampNeg)]) hc dL_law_765 (am_mem 1078 kv_1078 rfl) mX11_duel (kC_0 _) clX11 rfl rfl (by decide) (by decide) (by decide) (Nat.le_of_ble_eq_true rfl) hk0 ⟨by omega, by omega⟩ (qX11_duel_s x.2.1 am_N 1900 (xs (iv + (1 : Int32)).toNatClampNeg) (xs (iv + (2 : Int32)).toNatClampNeg) (xs (iv + (3 : Int32)).toNatClampNeg) IZ LC r IC' LC' e1) ?_
      refine l_aload_n hc dL_law_768 rfl ?_
      refine l_aload_n hc dL_law_769 rfl ?_
      refine l_iload hc dL_law_770 rfl ?_
      refine l_iconst (v := (1 : Int32)) hc dL_law_772 ci_1 ?_
      refine l_iadd hc dL_law_773 ?_
      refine l_sld hc hX dL_law_774 hin1 ?_
      refine l_aload_n hc dL_law_775 rfl ?_
      refine l_iload hc dL_law_776 rfl ?_
      refine l_iconst (v := (2 : Int32)) hc dL_law_778 ci_2 ?_
      refine l_iadd hc dL_law_779 ?_
      refine l_sld hc hX dL_law_780 hin2 ?_
      refine l_aload_n hc dL_law_781 rfl ?_
      refine l_iload hc dL_law_782 rfl ?_
      refine l_iconst (v := (3 : Int32)) hc dL_law_784 ci_3 ?_
      refine l_iadd hc dL_law_785 ?_
      refine l_sld hc hX dL_law_786 hin3 ?_
      refine l_callM (As := [.int (xs (iv + (1 : Int32)).toNatClampNeg), .int (xs (iv + (2 : Int32)).toNatClampNeg), .int (xs (iv + (3 : Int32)).toNatClampNeg)]) hc dL_law_787 (am_mem 1918 kv_1918 rfl) mX12_duel kM_0 clX12 rfl rfl (by decide) (by decide) (Nat.le_of_ble_eq_true rfl) hnc2 (qX12_duel x.2.1 am_N 1900 (xs (iv + (1 : Int32)).toNatClampNeg) (xs (iv + (2 : Int32)).toNatClampNeg) (xs (iv + (3 : Int32)).toNatClampNeg) IM LM r IM' LM' e2) ?_
      exact l_icmp_eq (tgt := 1556) hc dL_law_790 rfl (fun _ => kk _ _ _ _ _ _ _ _ (by omega) (by omega) hR2) (fun q => absurd rfl q)
theorem kv_1148 : lw_tbl[1148]? = some (Cond.methodLink RL 96 yX11_champion) := by decide +kernel
theorem kv_1944 : lw_tbl[1944]? = some (Cond.methodLink RL 99 yX12_champion) := by decide +kernel
def pe_champion (Rl : am_Rl) : Prop := ∀ (al : Bool) (IC : am_I) (LC : am_L) (IM : am_I) (LM : am_L) (e0 : Int32), Rl al IC LC IM LM → (al = true ∧ ∃ (r : Int32) (IC' : am_I) (LC' : am_L) (IM' : am_I) (LM' : am_L), fX11_champion_t am_N 1900 e0 IC LC = some (r, IC', LC') ∧ fX12_champion am_N 1900 e0 IM LM = some (r, IM', LM') ∧ Rl true IC' LC' IM' LM') ∨ (al = false ∧ ∃ (IZ : am_I) (r : Int32) (IC' : am_I) (LC' : am_L) (IM' : am_I) (LM' : am_L), (∀ t, t < 67 → IZ t = IC t) ∧ fX12_champion am_N 1900 e0 IM LM = some (r, IM', LM') ∧ ((fX11_champion_n am_N 1900 e0 IZ LC = some (r, IC', LC') ∧ Rl false IC' LC' IM' LM') ∨ (fX11_champion_s am_N 1900 e0 IZ LC = some (r, IC', LC') ∧ Rl true IC' LC' IM' LM')))
def py_champion (Rl : am_Rl) : Prop := ∀ (x : am_X) (Q : State → Prop) (L : Nat) (xs : Nat → Int32), am_ok x cL_law yL_law 7 (some .boolean) 2048 601024 7293034 → am_sc x L xs → x.2.1.stackTraces = false → (∀ k, am_k0 x k → 1000000 ≤ k) → ∀ (iv : Int32) (hin1 : vp_in (iv + (1 : Int32)) L) (hin2 : vp_in (iv + (2 : Int32)) L) (hin3 : vp_in (iv + (3 : Int32)) L) (al : Bool) (IC : am_I) (LC : am_L) (IM : am_I) (LM : am_L) (o : Int64) (nc ns : Nat), nc + 8 ≤ 601024 ∧ ns + 12000 ≤ 7293034 → Rl al IC LC IM LM → (∀ (al : Bool) (IC : am_I) (LC : am_L) (IM : am_I) (LM : am_L) (o : Int64) (nc' ns' : Nat), nc' ≤ nc + 8 → ns' ≤ ns + 12000 → Rl al IC LC IM LM → am_JL x Q 1556 [some (.ref 1000020), some (.ref 500000), some (.ref 500001), some (.ref 500002), some (.int iv), none, none] [] al IC LC IM LM o nc' ns') → am_JL x Q 795 [some (.ref 1000020), some (.ref 500000), some (.ref 500001), some (.ref 500002), some (.int iv), none, none] [] al IC LC IM LM o nc ns
set_option maxRecDepth 100000 in
set_option maxHeartbeats 4000000 in
theorem ly_champion {Rl : am_Rl} (hp : pe_champion Rl) : py_champion Rl := by
  intro x Q L xs hc hX hst hk0 iv hin1 hin2 hin3 al IC LC IM LM o nc ns hb hR kk
  have hnc : nc ≤ 601024 ∧ ns ≤ 7293034 := ⟨by omega, by omega⟩
  rcases hp al IC LC IM LM (xs (iv + (1 : Int32)).toNatClampNeg) hR with ⟨rfl, r, IC', LC', IM', LM', e1, e2, hR2⟩ | ⟨rfl, IZ, r, IC', LC', IM', LM', hI, e2, h⟩
  · refine l_aload_n hc dL_law_795 rfl ?_
    refine l_aload_n hc dL_law_796 rfl ?_
    refine l_iload hc dL_law_797 rfl ?_
    refine l_iconst (v := (1 : Int32)) hc dL_law_799 ci_1 ?_
    refine l_iadd hc dL_law_800 ?_
    refine l_sld hc hX dL_law_801 hin1 ?_
    refine l_callC (As := [.int (xs (iv + (1 : Int32)).toNatClampNeg)]) hc dL_law_802 (am_mem 1148 kv_1148 rfl) mX11_champion (kC_0 _) clX11 rfl rfl (by decide) (by decide) (Nat.le_of_ble_eq_true rfl) hnc (qX11_champion_t x.2.1 am_N 1900 (xs (iv + (1 : Int32)).toNatClampNeg) IC LC r IC' LC' e1) ?_
    refine l_aload_n hc dL_law_805 rfl ?_
    refine l_aload_n hc dL_law_806 rfl ?_
    refine l_iload hc dL_law_807 rfl ?_
    refine l_iconst (v := (1 : Int32)) hc dL_law_809 ci_1 ?_
    refine l_iadd hc dL_law_810 ?_
    refine l_sld hc hX dL_law_811 hin1 ?_
    refine l_callM (As := [.int (xs (iv + (1 : Int32)).toNatClampNeg)]) hc dL_law_812 (am_mem 1944 kv_1944 rfl) mX12_champion kM_0 clX12 rfl rfl (by decide) (by decide) (Nat.le_of_ble_eq_true rfl) hnc (qX12_champion x.2.1 am_N 1900 (xs (iv + (1 : Int32)).toNatClampNeg) IM LM r IM' LM' e2) ?_
    exact l_icmp_eq (tgt := 1556) hc dL_law_815 rfl (fun _ => kk _ _ _ _ _ _ _ _ (by omega) (by omega) hR2) (fun q => absurd rfl q)
  · refine l_zero hI ?_
    rcases h with ⟨e1, hR2⟩ | ⟨e1, hR2⟩
    · refine l_aload_n hc dL_law_795 rfl ?_
      refine l_aload_n hc dL_law_796 rfl ?_
      refine l_iload hc dL_law_797 rfl ?_
      refine l_iconst (v := (1 : Int32)) hc dL_law_799 ci_1 ?_
      refine l_iadd hc dL_law_800 ?_
      refine l_sld hc hX dL_law_801 hin1 ?_
      refine l_callC (As := [.int (xs (iv + (1 : Int32)).toNatClampNeg)]) hc dL_law_802 (am_mem 1148 kv_1148 rfl) mX11_champion (kC_0 _) clX11 rfl rfl (by decide) (by decide) (Nat.le_of_ble_eq_true rfl) hnc (qX11_champion_n x.2.1 am_N 1900 (xs (iv + (1 : Int32)).toNatClampNeg) IZ LC r IC' LC' e1) ?_
      refine l_aload_n hc dL_law_805 rfl ?_
      refine l_aload_n hc dL_law_806 rfl ?_
      refine l_iload hc dL_law_807 rfl ?_
      refine l_iconst (v := (1 : Int32)) hc dL_law_809 ci_1 ?_
      refine l_iadd hc dL_law_810 ?_
      refine l_sld hc hX dL_law_811 hin1 ?_
      refine l_callM (As := [.int (xs (iv + (1 : Int32)).toNatClampNeg)]) hc dL_law_812 (am_mem 1944 kv_1944 rfl) mX12_champion kM_0 clX12 rfl rfl (by decide) (by decide) (Nat.le_of_ble_eq_true rfl) hnc (qX12_champion x.2.1 am_N 1900 (xs (iv + (1 : Int32)).toNatClampNeg) IM LM r IM' LM' e2) ?_
      exact l_icmp_eq (tgt := 1556) hc dL_law_815 rfl (fun _ => kk _ _ _ _ _ _ _ _ (by omega) (by omega) hR2) (fun q => absurd rfl q)
    · have hnc2 : nc + 2 ≤ 601024 ∧ ns + 11250 ≤ 7293034 := ⟨by omega, by omega⟩
      refine l_aload_n hc dL_law_795 rfl ?_
      refine l_aload_n hc dL_law_796 rfl ?_
      refine l_iload hc dL_law_797 rfl ?_
      refine l_iconst (v := (1 : Int32)) hc dL_law_799 ci_1 ?_
      refine l_iadd hc dL_law_800 ?_
      refine l_sld hc hX dL_law_801 hin1 ?_
      refine l_callCE (n := 67) (As := [.int (xs (iv + (1 : Int32)).toNatClampNeg)]) hc dL_law_802 (am_mem 1148 kv_1148 rfl) mX11_champion (kC_0 _) clX11 rfl rfl (by decide) (by decide) (by decide) (Nat.le_of_ble_eq_true rfl) hk0 ⟨by omega, by omega⟩ (qX11_champion_s x.2.1 am_N 1900 (xs (iv + (1 : Int32)).toNatClampNeg) IZ LC r IC' LC' e1) ?_
      refine l_aload_n hc dL_law_805 rfl ?_
      refine l_aload_n hc dL_law_806 rfl ?_
      refine l_iload hc dL_law_807 rfl ?_
      refine l_iconst (v := (1 : Int32)) hc dL_law_809 ci_1 ?_
      refine l_iadd hc dL_law_810 ?_
      refine l_sld hc hX dL_law_811 hin1 ?_
      refine l_callM (As := [.int (xs (iv + (1 : Int32)).toNatClampNeg)]) hc dL_law_812 (am_mem 1944 kv_1944 rfl) mX12_champion kM_0 clX12 rfl rfl (by decide) (by decide) (Nat.le_of_ble_eq_true rfl) hnc2 (qX12_champion x.2.1 am_N 1900 (xs (iv + (1 : Int32)).toNatClampNeg) IM LM r IM' LM' e2) ?_
      exact l_icmp_eq (tgt := 1556) hc dL_law_815 rfl (fun _ => kk _ _ _ _ _ _ _ _ (by omega) (by omega) hR2) (fun q => absurd rfl q)
theorem kv_1143 : lw_tbl[1143]? = some (Cond.methodLink RL 176 yX11_treaty) := by decide +kernel
theorem kv_1964 : lw_tbl[1964]? = some (Cond.methodLink RL 179 yX12_treaty) := by decide +kernel
def pe_treaty (Rl : am_Rl) : Prop := ∀ (al : Bool) (IC : am_I) (LC : am_L) (IM : am_I) (LM : am_L) (e0 : Int32) (e1 : Int32), Rl al IC LC IM LM → (al = true ∧ ∃ (r : Int32) (IC' : am_I) (LC' : am_L) (IM' : am_I) (LM' : am_L), fX11_treaty_t am_N 1900 e0 e1 IC LC = some (r, IC', LC') ∧ fX12_treaty am_N 1900 e0 e1 IM LM = some (r, IM', LM') ∧ Rl true IC' LC' IM' LM') ∨ (al = false ∧ ∃ (IZ : am_I) (r : Int32) (IC' : am_I) (LC' : am_L) (IM' : am_I) (LM' : am_L), (∀ t, t < 67 → IZ t = IC t) ∧ fX12_treaty am_N 1900 e0 e1 IM LM = some (r, IM', LM') ∧ ((fX11_treaty_n am_N 1900 e0 e1 IZ LC = some (r, IC', LC') ∧ Rl false IC' LC' IM' LM') ∨ (fX11_treaty_s am_N 1900 e0 e1 IZ LC = some (r, IC', LC') ∧ Rl true IC' LC' IM' LM')))
def py_treaty (Rl : am_Rl) : Prop := ∀ (x : am_X) (Q : State → Prop) (L : Nat) (xs : Nat → Int32), am_ok x cL_law yL_law 7 (some .boolean) 2048 601024 7293034 → am_sc x L xs → x.2.1.stackTraces = false → (∀ k, am_k0 x k → 1000000 ≤ k) → ∀ (iv : Int32) (hin1 : vp_in (iv + (1 : Int32)) L) (hin2 : vp_in (iv + (2 : Int32)) L) (hin3 : vp_in (iv + (3 : Int32)) L) (al : Bool) (IC : am_I) (LC : am_L) (IM : am_I) (LM : am_L) (o : Int64) (nc ns : Nat), nc + 8 ≤ 601024 ∧ ns + 12000 ≤ 7293034 → Rl al IC LC IM LM → (∀ (al : Bool) (IC : am_I) (LC : am_L) (IM : am_I) (LM : am_L) (o : Int64) (nc' ns' : Nat), nc' ≤ nc + 8 → ns' ≤ ns + 12000 → Rl al IC LC IM LM → am_JL x Q 1556 [some (.ref 1000020), some (.ref 500000), some (.ref 500001), some (.ref 500002), some (.int iv), none, none] [] al IC LC IM LM o nc' ns') → am_JL x Q 1343 [some (.ref 1000020), some (.ref 500000), some (.ref 500001), some (.ref 500002), some (.int iv), none, none] [] al IC LC IM LM o nc ns
set_option maxRecDepth 100000 in
set_option maxHeartbeats 4000000 in
theorem ly_treaty {Rl : am_Rl} (hp : pe_treaty Rl) : py_treaty Rl := by
  intro x Q L xs hc hX hst hk0 iv hin1 hin2 hin3 al IC LC IM LM o nc ns hb hR kk
  have hnc : nc ≤ 601024 ∧ ns ≤ 7293034 := ⟨by omega, by omega⟩
  rcases hp al IC LC IM LM (xs (iv + (1 : Int32)).toNatClampNeg) (xs (iv + (2 : Int32)).toNatClampNeg) hR with ⟨rfl, r, IC', LC', IM', LM', e1, e2, hR2⟩ | ⟨rfl, IZ, r, IC', LC', IM', LM', hI, e2, h⟩
  · refine l_aload_n hc dL_law_1343 rfl ?_
    refine l_aload_n hc dL_law_1344 rfl ?_
    refine l_iload hc dL_law_1345 rfl ?_
    refine l_iconst (v := (1 : Int32)) hc dL_law_1347 ci_1 ?_
    refine l_iadd hc dL_law_1348 ?_
    refine l_sld hc hX dL_law_1349 hin1 ?_
    refine l_aload_n hc dL_law_1350 rfl ?_
    refine l_iload hc dL_law_1351 rfl ?_
    refine l_iconst (v := (2 : Int32)) hc dL_law_1353 ci_2 ?_
    refine l_iadd hc dL_law_1354 ?_
    refine l_sld hc hX dL_law_1355 hin2 ?_
    refine l_callC (As := [.int (xs (iv + (1 : Int32)).toNatClampNeg), .int (xs (iv + (2 : Int32)).toNatClampNeg)]) hc dL_law_1356 (am_mem 1143 kv_1143 rfl) mX11_treaty (kC_0 _) clX11 rfl rfl (by decide) (by decide) (Nat.le_of_ble_eq_true rfl) hnc (qX11_treaty_t x.2.1 am_N 1900 (xs (iv + (1 : Int32)).toNatClampNeg) (xs (iv + (2 : Int32)).toNatClampNeg) IC LC r IC' LC' e1) ?_
    refine l_aload_n hc dL_law_1359 rfl ?_
    refine l_aload_n hc dL_law_1360 rfl ?_
    refine l_iload hc dL_law_1361 rfl ?_
    refine l_iconst (v := (1 : Int32)) hc dL_law_1363 ci_1 ?_
    refine l_iadd hc dL_law_1364 ?_
    refine l_sld hc hX dL_law_1365 hin1 ?_
    refine l_aload_n hc dL_law_1366 rfl ?_
    refine l_iload hc dL_law_1367 rfl ?_
    refine l_iconst (v := (2 : Int32)) hc dL_law_1369 ci_2 ?_
    refine l_iadd hc dL_law_1370 ?_
    refine l_sld hc hX dL_law_1371 hin2 ?_
    refine l_callM (As := [.int (xs (iv + (1 : Int32)).toNatClampNeg), .int (xs (iv + (2 : Int32)).toNatClampNeg)]) hc dL_law_1372 (am_mem 1964 kv_1964 rfl) mX12_treaty kM_0 clX12 rfl rfl (by decide) (by decide) (Nat.le_of_ble_eq_true rfl) hnc (qX12_treaty x.2.1 am_N 1900 (xs (iv + (1 : Int32)).toNatClampNeg) (xs (iv + (2 : Int32)).toNatClampNeg) IM LM r IM' LM' e2) ?_
    exact l_icmp_eq (tgt := 1556) hc dL_law_1375 rfl (fun _ => kk _ _ _ _ _ _ _ _ (by omega) (by omega) hR2) (fun q => absurd rfl q)
  · refine l_zero hI ?_
    rcases h with ⟨e1, hR2⟩ | ⟨e1, hR2⟩
    · refine l_aload_n hc dL_law_1343 rfl ?_
      refine l_aload_n hc dL_law_1344 rfl ?_
      refine l_iload hc dL_law_1345 rfl ?_
      refine l_iconst (v := (1 : Int32)) hc dL_law_1347 ci_1 ?_
      refine l_iadd hc dL_law_1348 ?_
      refine l_sld hc hX dL_law_1349 hin1 ?_
      refine l_aload_n hc dL_law_1350 rfl ?_
      refine l_iload hc dL_law_1351 rfl ?_
      refine l_iconst (v := (2 : Int32)) hc dL_law_1353 ci_2 ?_
      refine l_iadd hc dL_law_1354 ?_
      refine l_sld hc hX dL_law_1355 hin2 ?_
      refine l_callC (As := [.int (xs (iv + (1 : Int32)).toNatClampNeg), .int (xs (iv + (2 : Int32)).toNatClampNeg)]) hc dL_law_1356 (am_mem 1143 kv_1143 rfl) mX11_treaty (kC_0 _) clX11 rfl rfl (by decide) (by decide) (Nat.le_of_ble_eq_true rfl) hnc (qX11_treaty_n x.2.1 am_N 1900 (xs (iv + (1 : Int32)).toNatClampNeg) (xs (iv + (2 : Int32)).toNatClampNeg) IZ LC r IC' LC' e1) ?_
      refine l_aload_n hc dL_law_1359 rfl ?_
      refine l_aload_n hc dL_law_1360 rfl ?_
      refine l_iload hc dL_law_1361 rfl ?_
      refine l_iconst (v := (1 : Int32)) hc dL_law_1363 ci_1 ?_
      refine l_iadd hc dL_law_1364 ?_
      refine l_sld hc hX dL_law_1365 hin1 ?_
      refine l_aload_n hc dL_law_1366 rfl ?_
      refine l_iload hc dL_law_1367 rfl ?_
      refine l_iconst (v := (2 : Int32)) hc dL_law_1369 ci_2 ?_
      refine l_iadd hc dL_law_1370 ?_
      refine l_sld hc hX dL_law_1371 hin2 ?_
      refine l_callM (As := [.int (xs (iv + (1 : Int32)).toNatClampNeg), .int (xs (iv + (2 : Int32)).toNatClampNeg)]) hc dL_law_1372 (am_mem 1964 kv_1964 rfl) mX12_treaty kM_0 clX12 rfl rfl (by decide) (by decide) (Nat.le_of_ble_eq_true rfl) hnc (qX12_treaty x.2.1 am_N 1900 (xs (iv + (1 : Int32)).toNatClampNeg) (xs (iv + (2 : Int32)).toNatClampNeg) IM LM r IM' LM' e2) ?_
      exact l_icmp_eq (tgt := 1556) hc dL_law_1375 rfl (fun _ => kk _ _ _ _ _ _ _ _ (by omega) (by omega) hR2) (fun q => absurd rfl q)
    · have hnc2 : nc + 2 ≤ 601024 ∧ ns + 11250 ≤ 7293034 := ⟨by omega, by omega⟩
      refine l_aload_n hc dL_law_1343 rfl ?_
      refine l_aload_n hc dL_law_1344 rfl ?_
      refine l_iload hc dL_law_1345 rfl ?_
      refine l_iconst (v := (1 : Int32)) hc dL_law_1347 ci_1 ?_
      refine l_iadd hc dL_law_1348 ?_
      refine l_sld hc hX dL_law_1349 hin1 ?_
      refine l_aload_n hc dL_law_1350 rfl ?_
      refine l_iload hc dL_law_1351 rfl ?_
      refine l_iconst (v := (2 : Int32)) hc dL_law_1353 ci_2 ?_
      refine l_iadd hc dL_law_1354 ?_
      refine l_sld hc hX dL_law_1355 hin2 ?_
      refine l_callCE (n := 67) (As := [.int (xs (iv + (1 : Int32)).toNatClampNeg), .int (xs (iv + (2 : Int32)).toNatClampNeg)]) hc dL_law_1356 (am_mem 1143 kv_1143 rfl) mX11_treaty (kC_0 _) clX11 rfl rfl (by decide) (by decide) (by decide) (Nat.le_of_ble_eq_true rfl) hk0 ⟨by omega, by omega⟩ (qX11_treaty_s x.2.1 am_N 1900 (xs (iv + (1 : Int32)).toNatClampNeg) (xs (iv + (2 : Int32)).toNatClampNeg) IZ LC r IC' LC' e1) ?_
      refine l_aload_n hc dL_law_1359 rfl ?_
      refine l_aload_n hc dL_law_1360 rfl ?_
      refine l_iload hc dL_law_1361 rfl ?_
      refine l_iconst (v := (1 : Int32)) hc dL_law_1363 ci_1 ?_
      refine l_iadd hc dL_law_1364 ?_
      refine l_sld hc hX dL_law_1365 hin1 ?_
      refine l_aload_n hc dL_law_1366 rfl ?_
      refine l_iload hc dL_law_1367 rfl ?_
      refine l_iconst (v := (2 : Int32)) hc dL_law_1369 ci_2 ?_
      refine l_iadd hc dL_law_1370 ?_
      refine l_sld hc hX dL_law_1371 hin2 ?_
      refine l_callM (As := [.int (xs (iv + (1 : Int32)).toNatClampNeg), .int (xs (iv + (2 : Int32)).toNatClampNeg)]) hc dL_law_1372 (am_mem 1964 kv_1964 rfl) mX12_treaty kM_0 clX12 rfl rfl (by decide) (by decide) (Nat.le_of_ble_eq_true rfl) hnc2 (qX12_treaty x.2.1 am_N 1900 (xs (iv + (1 : Int32)).toNatClampNeg) (xs (iv + (2 : Int32)).toNatClampNeg) IM LM r IM' LM' e2) ?_
      exact l_icmp_eq (tgt := 1556) hc dL_law_1375 rfl (fun _ => kk _ _ _ _ _ _ _ _ (by omega) (by omega) hR2) (fun q => absurd rfl q)
theorem kv_1164 : lw_tbl[1164]? = some (Cond.methodLink RL 180 yX11_victors) := by decide +kernel
theorem kv_1956 : lw_tbl[1956]? = some (Cond.methodLink RL 183 yX12_victors) := by decide +kernel
def pe_victors (Rl : am_Rl) : Prop := ∀ (al : Bool) (IC : am_I) (LC : am_L) (IM : am_I) (LM : am_L) (e0 : Int32), Rl al IC LC IM LM → (al = true ∧ ∃ (r : Int32) (IC' : am_I) (LC' : am_L) (IM' : am_I) (LM' : am_L), fX11_victors_t am_N 1900 e0 IC LC = some (r, IC', LC') ∧ fX12_victors am_N 1900 e0 IM LM = some (r, IM', LM') ∧ Rl true IC' LC' IM' LM') ∨ (al = false ∧ ∃ (IZ : am_I) (r : Int32) (IC' : am_I) (LC' : am_L) (IM' : am_I) (LM' : am_L), (∀ t, t < 67 → IZ t = IC t) ∧ fX12_victors am_N 1900 e0 IM LM = some (r, IM', LM') ∧ ((fX11_victors_n am_N 1900 e0 IZ LC = some (r, IC', LC') ∧ Rl false IC' LC' IM' LM') ∨ (fX11_victors_s am_N 1900 e0 IZ LC = some (r, IC', LC') ∧ Rl true IC' LC' IM' LM')))
def py_victors (Rl : am_Rl) : Prop := ∀ (x : am_X) (Q : State → Prop) (L : Nat) (xs : Nat → Int32), am_ok x cL_law yL_law 7 (some .boolean) 2048 601024 7293034 → am_sc x L xs → x.2.1.stackTraces = false → (∀ k, am_k0 x k → 1000000 ≤ k) → ∀ (iv : Int32) (hin1 : vp_in (iv + (1 : Int32)) L) (hin2 : vp_in (iv + (2 : Int32)) L) (hin3 : vp_in (iv + (3 : Int32)) L) (al : Bool) (IC : am_I) (LC : am_L) (IM : am_I) (LM : am_L) (o : Int64) (nc ns : Nat), nc + 8 ≤ 601024 ∧ ns + 12000 ≤ 7293034 → Rl al IC LC IM LM → (∀ (al : Bool) (IC : am_I) (LC : am_L) (IM : am_I) (LM : am_L) (o : Int64) (nc' ns' : Nat), nc' ≤ nc + 8 → ns' ≤ ns + 12000 → Rl al IC LC IM LM → am_JL x Q 1556 [some (.ref 1000020), some (.ref 500000), some (.ref 500001), some (.ref 500002), some (.int iv), none, none] [] al IC LC IM LM o nc' ns') → am_JL x Q 1380 [some (.ref 1000020), some (.ref 500000), some (.ref 500001), some (.ref 500002), some (.int iv), none, none] [] al IC LC IM LM o nc ns
set_option maxRecDepth 100000 in
set_option maxHeartbeats 4000000 in
theorem ly_victors {Rl : am_Rl} (hp : pe_victors Rl) : py_victors Rl := by
  intro x Q L xs hc hX hst hk0 iv hin1 hin2 hin3 al IC LC IM LM o nc ns hb hR kk
  have hnc : nc ≤ 601024 ∧ ns ≤ 7293034 := ⟨by omega, by omega⟩
  rcases hp al IC LC IM LM (xs (iv + (1 : Int32)).toNatClampNeg) hR with ⟨rfl, r, IC', LC', IM', LM', e1, e2, hR2⟩ | ⟨rfl, IZ, r, IC', LC', IM', LM', hI, e2, h⟩
  · refine l_aload_n hc dL_law_1380 rfl ?_
    refine l_aload_n hc dL_law_1381 rfl ?_
    refine l_iload hc dL_law_1382 rfl ?_
    refine l_iconst (v := (1 : Int32)) hc dL_law_1384 ci_1 ?_
    refine l_iadd hc dL_law_1385 ?_
    refine l_sld hc hX dL_law_1386 hin1 ?_
    refine l_callC (As := [.int (xs (iv + (1 : Int32)).toNatClampNeg)]) hc dL_law_1387 (am_mem 1164 kv_1164 rfl) mX11_victors (kC_0 _) clX11 rfl rfl (by decide) (by decide) (Nat.le_of_ble_eq_true rfl) hnc (qX11_victors_t x.2.1 am_N 1900 (xs (iv + (1 : Int32)).toNatClampNeg) IC LC r IC' LC' e1) ?_
    refine l_aload_n hc dL_law_1390 rfl ?_
    refine l_aload_n hc dL_law_1391 rfl ?_
    refine l_iload hc dL_law_1392 rfl ?_
    refine l_iconst (v := (1 : Int32)) hc dL_law_1394 ci_1 ?_
    refine l_iadd hc dL_law_1395 ?_
    refine l_sld hc hX dL_law_1396 hin1 ?_
    refine l_callM (As := [.int (xs (iv + (1 : Int32)).toNatClampNeg)]) hc dL_law_1397 (am_mem 1956 kv_1956 rfl) mX12_victors kM_0 clX12 rfl rfl (by decide) (by decide) (Nat.le_of_ble_eq_true rfl) hnc (qX12_victors x.2.1 am_N 1900 (xs (iv + (1 : Int32)).toNatClampNeg) IM LM r IM' LM' e2) ?_
    exact l_icmp_eq (tgt := 1556) hc dL_law_1400 rfl (fun _ => kk _ _ _ _ _ _ _ _ (by omega) (by omega) hR2) (fun q => absurd rfl q)
  · refine l_zero hI ?_
    rcases h with ⟨e1, hR2⟩ | ⟨e1, hR2⟩
    · refine l_aload_n hc dL_law_1380 rfl ?_
      refine l_aload_n hc dL_law_1381 rfl ?_
      refine l_iload hc dL_law_1382 rfl ?_
      refine l_iconst (v := (1 : Int32)) hc dL_law_1384 ci_1 ?_
      refine l_iadd hc dL_law_1385 ?_
      refine l_sld hc hX dL_law_1386 hin1 ?_
      refine l_callC (As := [.int (xs (iv + (1 : Int32)).toNatClampNeg)]) hc dL_law_1387 (am_mem 1164 kv_1164 rfl) mX11_victors (kC_0 _) clX11 rfl rfl (by decide) (by decide) (Nat.le_of_ble_eq_true rfl) hnc (qX11_victors_n x.2.1 am_N 1900 (xs (iv + (1 : Int32)).toNatClampNeg) IZ LC r IC' LC' e1) ?_
      refine l_aload_n hc dL_law_1390 rfl ?_
      refine l_aload_n hc dL_law_1391 rfl ?_
      refine l_iload hc dL_law_1392 rfl ?_
      refine l_iconst (v := (1 : Int32)) hc dL_law_1394 ci_1 ?_
      refine l_iadd hc dL_law_1395 ?_
      refine l_sld hc hX dL_law_1396 hin1 ?_
      refine l_callM (As := [.int (xs (iv + (1 : Int32)).toNatClampNeg)]) hc dL_law_1397 (am_mem 1956 kv_1956 rfl) mX12_victors kM_0 clX12 rfl rfl (by decide) (by decide) (Nat.le_of_ble_eq_true rfl) hnc (qX12_victors x.2.1 am_N 1900 (xs (iv + (1 : Int32)).toNatClampNeg) IM LM r IM' LM' e2) ?_
      exact l_icmp_eq (tgt := 1556) hc dL_law_1400 rfl (fun _ => kk _ _ _ _ _ _ _ _ (by omega) (by omega) hR2) (fun q => absurd rfl q)
    · have hnc2 : nc + 2 ≤ 601024 ∧ ns + 11250 ≤ 7293034 := ⟨by omega, by omega⟩
      refine l_aload_n hc dL_law_1380 rfl ?_
      refine l_aload_n hc dL_law_1381 rfl ?_
      refine l_iload hc dL_law_1382 rfl ?_
      refine l_iconst (v := (1 : Int32)) hc dL_law_1384 ci_1 ?_
      refine l_iadd hc dL_law_1385 ?_
      refine l_sld hc hX dL_law_1386 hin1 ?_
      refine l_callCE (n := 67) (As := [.int (xs (iv + (1 : Int32)).toNatClampNeg)]) hc dL_law_1387 (am_mem 1164 kv_1164 rfl) mX11_victors (kC_0 _) clX11 rfl rfl (by decide) (by decide) (by decide) (Nat.le_of_ble_eq_true rfl) hk0 ⟨by omega, by omega⟩ (qX11_victors_s x.2.1 am_N 1900 (xs (iv + (1 : Int32)).toNatClampNeg) IZ LC r IC' LC' e1) ?_
      refine l_aload_n hc dL_law_1390 rfl ?_
      refine l_aload_n hc dL_law_1391 rfl ?_
      refine l_iload hc dL_law_1392 rfl ?_
      refine l_iconst (v := (1 : Int32)) hc dL_law_1394 ci_1 ?_
      refine l_iadd hc dL_law_1395 ?_
      refine l_sld hc hX dL_law_1396 hin1 ?_
      refine l_callM (As := [.int (xs (iv + (1 : Int32)).toNatClampNeg)]) hc dL_law_1397 (am_mem 1956 kv_1956 rfl) mX12_victors kM_0 clX12 rfl rfl (by decide) (by decide) (Nat.le_of_ble_eq_true rfl) hnc2 (qX12_victors x.2.1 am_N 1900 (xs (iv + (1 : Int32)).toNatClampNeg) IM LM r IM' LM' e2) ?_
      exact l_icmp_eq (tgt := 1556) hc dL_law_1400 rfl (fun _ => kk _ _ _ _ _ _ _ _ (by omega) (by omega) hR2) (fun q => absurd rfl q)
