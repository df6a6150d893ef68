theorem kz_119 : lw_tbl[119]? = some (Cond.initialized "LastHome$WarText") := by decide +kernel
theorem kz_130 : lw_tbl[130]? = some (Cond.initialized "java/lang/String") := by decide +kernel
theorem kz_142 : lw_tbl[142]? = some (Cond.instantiable RX11 15) := by decide +kernel
theorem kz_150 : lw_tbl[150]? = some (Cond.instantiable RX8 2) := by decide +kernel
theorem kz_151 : lw_tbl[151]? = some (Cond.methodLinkNest RX11 9 yX8_init RX11) := by decide +kernel
theorem kz_165 : lw_tbl[165]? = some (Cond.arrayClass .int) := by decide +kernel
theorem kz_167 : lw_tbl[167]? = some (Cond.instantiable RX9 15) := by decide +kernel
theorem kz_168 : lw_tbl[168]? = some (Cond.methodLinkNest RX11 18 yX9_init RX11) := by decide +kernel
theorem kz_248 : lw_tbl[248]? = some (Cond.instantiable RX10 6) := by decide +kernel
theorem kz_273 : lw_tbl[273]? = some (Cond.instantiable RX2 4) := by decide +kernel
theorem kz_294 : lw_tbl[294]? = some (Cond.instantiable RX3 7) := by decide +kernel
theorem kz_295 : lw_tbl[295]? = some (Cond.methodLinkNest RX11 46 yX3_init RX11) := by decide +kernel
theorem kz_300 : lw_tbl[300]? = some (Cond.arrayOver (.array .int)) := by decide +kernel
theorem kz_329 : lw_tbl[329]? = some (Cond.instantiable RX7 7) := by decide +kernel
theorem kz_364 : lw_tbl[364]? = some (Cond.instantiable RX5 4) := by decide +kernel
theorem kz_365 : lw_tbl[365]? = some (Cond.methodLinkNest RX11 62 yX5_init RX11) := by decide +kernel
theorem kz_384 : lw_tbl[384]? = some (Cond.instantiable RX6 8) := by decide +kernel
theorem kz_385 : lw_tbl[385]? = some (Cond.methodLinkNest RX11 69 yX6_init RX11) := by decide +kernel
theorem kz_416 : lw_tbl[416]? = some (Cond.arrayClass .long) := by decide +kernel
theorem kz_418 : lw_tbl[418]? = some (Cond.instantiable RX0 12) := by decide +kernel
theorem kz_419 : lw_tbl[419]? = some (Cond.methodLinkNest RX11 76 yX0_init RX11) := by decide +kernel
theorem kz_461 : lw_tbl[461]? = some (Cond.instantiable RX1 4) := by decide +kernel
theorem kz_480 : lw_tbl[480]? = some (Cond.instantiable RX4 6) := by decide +kernel
theorem kz_481 : lw_tbl[481]? = some (Cond.methodLinkNest RX11 92 yX4_init RX11) := by decide +kernel
theorem kz_576 : lw_tbl[576]? = some (Cond.laysStatic "LastHome$WarText" "WITHOUT" "[I") := by decide +kernel
theorem kz_614 : lw_tbl[614]? = some (Cond.stringRef "LastHome$WarText" 107 "sdvbnikxpg") := by decide +kernel
theorem kz_628 : lw_tbl[628]? = some (Cond.laysStatic "java/lang/String" "COMPACT_STRINGS" "Z") := by decide +kernel
theorem kz_710 : lw_tbl[710]? = some (Cond.laysStatic "LastHome$WarText" "LEAST" "[I") := by decide +kernel
theorem kz_712 : lw_tbl[712]? = some (Cond.laysStatic "LastHome$WarText" "MOST" "[I") := by decide +kernel
theorem kz_776 : lw_tbl[776]? = some (Cond.stringRef "LastHome$LawText" 88 "dbniys") := by decide +kernel
theorem kz_1471 : lw_tbl[1471]? = some (Cond.instantiable RX12 44) := by decide +kernel
set_option maxRecDepth 100000 in
set_option maxHeartbeats 8000000 in
theorem am_start {s : State} {b : Nat} (hts : ∀ w ∈ lw_tbl, w.before #[Value.ref b] s = true) (hgv : (Jvm.Cond.and given_1 narrow_1).before #[Value.ref b] s = true) : ∃ a0 : Nat → Nat, a0 1000020 = b ∧ am_E (fun q => s.heap.size ≤ q) a0 s s.heap := by
  have hs := flat_of_before _ hgv
  have hA : ∀ a : Nat, a < s.heap.size → ¬ (fun q => s.heap.size ≤ q) a := fun a h => Nat.not_le.mpr h
  have eW : ∀ j : Nat, j < 10 → (Term.elem (.static "LastHome$WarText" "WITHOUT" "[I") (.int (Int32.ofNat j))).eval #[Value.ref b] s none [] s = some (.int (am_cW j)) := by
    intro j hj
    match j, hj with
    | 0, _ => exact va_eqt (hs (.eq (.elem (.static "LastHome$WarText" "WITHOUT" "[I") (.int 0)) (.int 0)) (by decide +kernel))
    | 1, _ => exact va_eqt (hs (.eq (.elem (.static "LastHome$WarText" "WITHOUT" "[I") (.int 1)) (.int 6)) (by decide +kernel))
    | 2, _ => exact va_eqt (hs (.eq (.elem (.static "LastHome$WarText" "WITHOUT" "[I") (.int 2)) (.int 1)) (by decide +kernel))
    | 3, _ => exact va_eqt (hs (.eq (.elem (.static "LastHome$WarText" "WITHOUT" "[I") (.int 3)) (.int 0)) (by decide +kernel))
    | 4, _ => exact va_eqt (hs (.eq (.elem (.static "LastHome$WarText" "WITHOUT" "[I") (.int 4)) (.int 3)) (by decide +kernel))
    | 5, _ => exact va_eqt (hs (.eq (.elem (.static "LastHome$WarText" "WITHOUT" "[I") (.int 5)) (.int 0)) (by decide +kernel))
    | 6, _ => exact va_eqt (hs (.eq (.elem (.static "LastHome$WarText" "WITHOUT" "[I") (.int 6)) (.int 3)) (by decide +kernel))
    | 7, _ => exact va_eqt (hs (.eq (.elem (.static "LastHome$WarText" "WITHOUT" "[I") (.int 7)) (.int 2)) (by decide +kernel))
    | 8, _ => exact va_eqt (hs (.eq (.elem (.static "LastHome$WarText" "WITHOUT" "[I") (.int 8)) (.int 6)) (by decide +kernel))
    | 9, _ => exact va_eqt (hs (.eq (.elem (.static "LastHome$WarText" "WITHOUT" "[I") (.int 9)) (.int 0)) (by decide +kernel))
  obtain ⟨tW, gW, hW⟩ := va_Tof (tm := (.static "LastHome$WarText" "WITHOUT" "[I")) (ty := .int) (N := 10) (f := fun j => .int (am_cW j)) (by decide) (hs (.arrayOf (.static "LastHome$WarText" "WITHOUT" "[I") .int) (by decide +kernel)) (va_eqt (hs (.eq (.length (.static "LastHome$WarText" "WITHOUT" "[I")) (.int 10)) (by decide +kernel))) eW hA
  have zW := va_Zof (hts _ (List.mem_of_getElem? kz_576)) (hts _ (List.mem_of_getElem? kz_119)) gW hA
  have eL : ∀ j : Nat, j < 10 → (Term.elem (.static "LastHome$WarText" "LEAST" "[I") (.int (Int32.ofNat j))).eval #[Value.ref b] s none [] s = some (.int (am_cL j)) := by
    intro j hj
    match j, hj with
    | 0, _ => exact va_eqt (hs (.eq (.elem (.static "LastHome$WarText" "LEAST" "[I") (.int 0)) (.int 0)) (by decide +kernel))
    | 1, _ => exact va_eqt (hs (.eq (.elem (.static "LastHome$WarText" "LEAST" "[I") (.int 1)) (.int 0)) (by decide +kernel))
    | 2, _ => exact va_eqt (hs (.eq (.elem (.static "LastHome$WarText" "LEAST" "[I") (.int 2)) (.int 1)) (by decide +kernel))
    | 3, _ => exact va_eqt (hs (.eq (.elem (.static "LastHome$WarText" "LEAST" "[I") (.int 3)) (.int 0)) (by decide +kernel))
    | 4, _ => exact va_eqt (hs (.eq (.elem (.static "LastHome$WarText" "LEAST" "[I") (.int 4)) (.int 0)) (by decide +kernel))
    | 5, _ => exact va_eqt (hs (.eq (.elem (.static "LastHome$WarText" "LEAST" "[I") (.int 5)) (.int 0)) (by decide +kernel))
    | 6, _ => exact va_eqt (hs (.eq (.elem (.static "LastHome$WarText" "LEAST" "[I") (.int 6)) (.int 1)) (by decide +kernel))
    | 7, _ => exact va_eqt (hs (.eq (.elem (.static "LastHome$WarText" "LEAST" "[I") (.int 7)) (.int 1)) (by decide +kernel))
    | 8, _ => exact va_eqt (hs (.eq (.elem (.static "LastHome$WarText" "LEAST" "[I") (.int 8)) (.int 0)) (by decide +kernel))
    | 9, _ => exact va_eqt (hs (.eq (.elem (.static "LastHome$WarText" "LEAST" "[I") (.int 9)) (.int 0)) (by decide +kernel))
  obtain ⟨tL, gL, hL⟩ := va_Tof (tm := (.static "LastHome$WarText" "LEAST" "[I")) (ty := .int) (N := 10) (f := fun j => .int (am_cL j)) (by decide) (hs (.arrayOf (.static "LastHome$WarText" "LEAST" "[I") .int) (by decide +kernel)) (va_eqt (hs (.eq (.length (.static "LastHome$WarText" "LEAST" "[I")) (.int 10)) (by decide +kernel))) eL hA
  have zL := va_Zof (hts _ (List.mem_of_getElem? kz_710)) (hts _ (List.mem_of_getElem? kz_119)) gL hA
  have eM : ∀ j : Nat, j < 10 → (Term.elem (.static "LastHome$WarText" "MOST" "[I") (.int (Int32.ofNat j))).eval #[Value.ref b] s none [] s = some (.int (am_cM j)) := by
    intro j hj
    match j, hj with
    | 0, _ => exact va_eqt (hs (.eq (.elem (.static "LastHome$WarText" "MOST" "[I") (.int 0)) (.int 1)) (by decide +kernel))
    | 1, _ => exact va_eqt (hs (.eq (.elem (.static "LastHome$WarText" "MOST" "[I") (.int 1)) (.int 20)) (by decide +kernel))
    | 2, _ => exact va_eqt (hs (.eq (.elem (.static "LastHome$WarText" "MOST" "[I") (.int 2)) (.int 5)) (by decide +kernel))
    | 3, _ => exact va_eqt (hs (.eq (.elem (.static "LastHome$WarText" "MOST" "[I") (.int 3)) (.int 1)) (by decide +kernel))
    | 4, _ => exact va_eqt (hs (.eq (.elem (.static "LastHome$WarText" "MOST" "[I") (.int 4)) (.int 9)) (by decide +kernel))
    | 5, _ => exact va_eqt (hs (.eq (.elem (.static "LastHome$WarText" "MOST" "[I") (.int 5)) (.int 9)) (by decide +kernel))
    | 6, _ => exact va_eqt (hs (.eq (.elem (.static "LastHome$WarText" "MOST" "[I") (.int 6)) (.int 20)) (by decide +kernel))
    | 7, _ => exact va_eqt (hs (.eq (.elem (.static "LastHome$WarText" "MOST" "[I") (.int 7)) (.int 9)) (by decide +kernel))
    | 8, _ => exact va_eqt (hs (.eq (.elem (.static "LastHome$WarText" "MOST" "[I") (.int 8)) (.int 9)) (by decide +kernel))
    | 9, _ => exact va_eqt (hs (.eq (.elem (.static "LastHome$WarText" "MOST" "[I") (.int 9)) (.int 1)) (by decide +kernel))
  obtain ⟨tM, gM, hM⟩ := va_Tof (tm := (.static "LastHome$WarText" "MOST" "[I")) (ty := .int) (N := 10) (f := fun j => .int (am_cM j)) (by decide) (hs (.arrayOf (.static "LastHome$WarText" "MOST" "[I") .int) (by decide +kernel)) (va_eqt (hs (.eq (.length (.static "LastHome$WarText" "MOST" "[I")) (.int 10)) (by decide +kernel))) eM hA
  have zM := va_Zof (hts _ (List.mem_of_getElem? kz_712)) (hts _ (List.mem_of_getElem? kz_119)) gM hA
  have zC := va_Zof (v := .int 1) (A := fun q => s.heap.size ≤ q) (hts _ (List.mem_of_getElem? kz_628)) (hts _ (List.mem_of_getElem? kz_130)) (va_eqt (hs (.eq (.static "java/lang/String" "COMPACT_STRINGS" "Z") (.int 1)) (by decide +kernel))) hA
  obtain ⟨adK, adV, hSt, hEv⟩ := vk_Sof (args := #[Value.ref b]) (s := s) (N := 2) (tm := fun i => if i = 0 then (.string "LastHome$WarText" 107) else (.string "LastHome$LawText" 88)) (len := [10, 6]) (byt := am_by) (A := fun q => s.heap.size ≤ q) (fun i hi => by match i, hi with
    | 0, _ => decide
    | 1, _ => decide) (fun i hi => by match i, hi with
    | 0, _ => exact hs (.exactly (.string "LastHome$WarText" 107) "java/lang/String") (by decide +kernel)
    | 1, _ => exact hs (.exactly (.string "LastHome$LawText" 88) "java/lang/String") (by decide +kernel)) (fun i hi => by match i, hi with
    | 0, _ => exact hs (.eq (.field (.string "LastHome$WarText" 107) "java/lang/String" "coder" "B") (.int 0)) (by decide +kernel)
    | 1, _ => exact hs (.eq (.field (.string "LastHome$LawText" 88) "java/lang/String" "coder" "B") (.int 0)) (by decide +kernel))
    (fun i hi => by match i, hi with
    | 0, _ => exact hs (.arrayOf (.field (.string "LastHome$WarText" 107) "java/lang/String" "value" "[B") .byte) (by decide +kernel)
    | 1, _ => exact hs (.arrayOf (.field (.string "LastHome$LawText" 88) "java/lang/String" "value" "[B") .byte) (by decide +kernel)) (fun i hi => by match i, hi with
    | 0, _ => exact hs (.eq (.length (.field (.string "LastHome$WarText" 107) "java/lang/String" "value" "[B")) (.int 10)) (by decide +kernel)
    | 1, _ => exact hs (.eq (.length (.field (.string "LastHome$LawText" 88) "java/lang/String" "value" "[B")) (.int 6)) (by decide +kernel))
    (fun i hi => by match i, hi with
    | 0, _ => exact (fun j hj => by match j, hj with
      | 0, _ => exact hs (.eq (.elem (.field (.string "LastHome$WarText" 107) "java/lang/String" "value" "[B") (.int 0)) (.int 115)) (by decide +kernel)
      | 1, _ => exact hs (.eq (.elem (.field (.string "LastHome$WarText" 107) "java/lang/String" "value" "[B") (.int 1)) (.int 100)) (by decide +kernel)
      | 2, _ => exact hs (.eq (.elem (.field (.string "LastHome$WarText" 107) "java/lang/String" "value" "[B") (.int 2)) (.int 118)) (by decide +kernel)
      | 3, _ => exact hs (.eq (.elem (.field (.string "LastHome$WarText" 107) "java/lang/String" "value" "[B") (.int 3)) (.int 98)) (by decide +kernel)
      | 4, _ => exact hs (.eq (.elem (.field (.string "LastHome$WarText" 107) "java/lang/String" "value" "[B") (.int 4)) (.int 110)) (by decide +kernel)
      | 5, _ => exact hs (.eq (.elem (.field (.string "LastHome$WarText" 107) "java/lang/String" "value" "[B") (.int 5)) (.int 105)) (by decide +kernel)
      | 6, _ => exact hs (.eq (.elem (.field (.string "LastHome$WarText" 107) "java/lang/String" "value" "[B") (.int 6)) (.int 107)) (by decide +kernel)
      | 7, _ => exact hs (.eq (.elem (.field (.string "LastHome$WarText" 107) "java/lang/String" "value" "[B") (.int 7)) (.int 120)) (by decide +kernel)
      | 8, _ => exact hs (.eq (.elem (.field (.string "LastHome$WarText" 107) "java/lang/String" "value" "[B") (.int 8)) (.int 112)) (by decide +kernel)
      | 9, _ => exact hs (.eq (.elem (.field (.string "LastHome$WarText" 107) "java/lang/String" "value" "[B") (.int 9)) (.int 103)) (by decide +kernel))
    | 1, _ => exact (fun j hj => by match j, hj with
      | 0, _ => exact hs (.eq (.elem (.field (.string "LastHome$LawText" 88) "java/lang/String" "value" "[B") (.int 0)) (.int 100)) (by decide +kernel)
      | 1, _ => exact hs (.eq (.elem (.field (.string "LastHome$LawText" 88) "java/lang/String" "value" "[B") (.int 1)) (.int 98)) (by decide +kernel)
      | 2, _ => exact hs (.eq (.elem (.field (.string "LastHome$LawText" 88) "java/lang/String" "value" "[B") (.int 2)) (.int 110)) (by decide +kernel)
      | 3, _ => exact hs (.eq (.elem (.field (.string "LastHome$LawText" 88) "java/lang/String" "value" "[B") (.int 3)) (.int 105)) (by decide +kernel)
      | 4, _ => exact hs (.eq (.elem (.field (.string "LastHome$LawText" 88) "java/lang/String" "value" "[B") (.int 4)) (.int 121)) (by decide +kernel)
      | 5, _ => exact hs (.eq (.elem (.field (.string "LastHome$LawText" 88) "java/lang/String" "value" "[B") (.int 5)) (.int 115)) (by decide +kernel))) (fun i j hi hj hij => by match i, hi, j, hj with
    | 0, _, 0, _ => exact absurd rfl hij
    | 1, _, 1, _ => exact absurd rfl hij
    | 0, _, 1, _ => exact Or.inl (hs (.not (.eq (.string "LastHome$WarText" 107) (.string "LastHome$LawText" 88))) (by decide +kernel))
    | 1, _, 0, _ => exact Or.inr (hs (.not (.eq (.string "LastHome$WarText" 107) (.string "LastHome$LawText" 88))) (by decide +kernel))) hA
  have r0 := vk_R.of (hts _ (List.mem_of_getElem? kz_614)) (hEv 0 (by decide))
  have r1 := vk_R.of (hts _ (List.mem_of_getElem? kz_776)) (hEv 1 (by decide))
  have nw : am_NW s := ⟨List.forall_mem_cons.mpr ⟨va_Nw.of rfl (hts _ (List.mem_of_getElem? kz_151)), List.forall_mem_cons.mpr ⟨va_Nw.of rfl (hts _ (List.mem_of_getElem? kz_168)), List.forall_mem_cons.mpr ⟨va_Nw.of rfl (hts _ (List.mem_of_getElem? kz_295)), List.forall_mem_cons.mpr ⟨va_Nw.of rfl (hts _ (List.mem_of_getElem? kz_365)), List.forall_mem_cons.mpr ⟨va_Nw.of rfl (hts _ (List.mem_of_getElem? kz_385)), List.forall_mem_cons.mpr ⟨va_Nw.of rfl (hts _ (List.mem_of_getElem? kz_419)), List.forall_mem_cons.mpr ⟨va_Nw.of rfl (hts _ (List.mem_of_getElem? kz_481)), fun _ h => absurd h List.not_mem_nil⟩⟩⟩⟩⟩⟩⟩, show _ from (hts _ (List.mem_of_getElem? kz_300))⟩
  refine ⟨fun k => if k = 1000020 then b else if k = 1000001 then tW else if k = 1000002 then tL else if k = 1000003 then tM else if k % 2 = 0 then adK ((k - 1000010) / 2) else adV ((k - 1000011) / 2), rfl, ⟨zW, hW⟩, ⟨zL, hL⟩, ⟨zM, hM⟩, zC, r0, r1, ?_, nw⟩
  refine ⟨fun i hi => ?_, fun i j hi hj e => hSt.2 i j hi hj ?_⟩
  · match i, hi with
    | 0, _ => exact hSt.1 0 (by decide)
    | 1, _ => exact hSt.1 1 (by decide)
  · match i, hi, j, hj with
    | 0, _, 0, _ => rfl
    | 1, _, 1, _ => rfl
    | 0, _, 1, _ => exact e
    | 1, _, 0, _ => exact e
set_option maxRecDepth 100000 in
set_option maxHeartbeats 8000000 in
theorem am_startK {s : State} {b : Nat} (hts : ∀ w ∈ lw_tbl, w.before #[Value.ref b] s = true) : ∃ (D : va_G) (G : am_G), va_K D vwCl (am_ty G) s := by
  have hg : ∀ w ∈ am_gd, w.before #[Value.ref b] s = true := fun w h => hts w (List.mem_filter.mp h).1
  obtain ⟨c0, i0, h0⟩ := u_known (C := RX0) (T := TX0) (N := 12) (n := 12) hg inX0 (hts _ (List.mem_of_getElem? kz_418))
  obtain ⟨c1, i1, h1⟩ := u_known (C := RX1) (T := TX1) (N := 4) (n := 4) hg inX1 (hts _ (List.mem_of_getElem? kz_461))
  obtain ⟨c2, i2, h2⟩ := u_known (C := RX2) (T := TX2) (N := 4) (n := 4) hg inX2 (hts _ (List.mem_of_getElem? kz_273))
  obtain ⟨c3, i3, h3⟩ := u_known (C := RX3) (T := TX3) (N := 7) (n := 7) hg inX3 (hts _ (List.mem_of_getElem? kz_294))
  obtain ⟨c4, i4, h4⟩ := u_known (C := RX4) (T := TX4) (N := 6) (n := 6) hg inX4 (hts _ (List.mem_of_getElem? kz_480))
  obtain ⟨c5, i5, h5⟩ := u_known (C := RX5) (T := TX5) (N := 4) (n := 4) hg inX5 (hts _ (List.mem_of_getElem? kz_364))
  obtain ⟨c6, i6, h6⟩ := u_known (C := RX6) (T := TX6) (N := 8) (n := 8) hg inX6 (hts _ (List.mem_of_getElem? kz_384))
  obtain ⟨c7, i7, h7⟩ := u_known (C := RX7) (T := TX7) (N := 7) (n := 7) hg inX7 (hts _ (List.mem_of_getElem? kz_329))
  obtain ⟨c8, i8, h8⟩ := u_known (C := RX8) (T := TX8) (N := 2) (n := 2) hg inX8 (hts _ (List.mem_of_getElem? kz_150))
  obtain ⟨c9, i9, h9⟩ := u_known (C := RX9) (T := TX9) (N := 15) (n := 15) hg inX9 (hts _ (List.mem_of_getElem? kz_167))
  obtain ⟨c10, i10, h10⟩ := u_known (C := RX10) (T := TX10) (N := 6) (n := 6) hg inX10 (hts _ (List.mem_of_getElem? kz_248))
  obtain ⟨c11, i11, h11⟩ := u_known (C := RX11) (T := TX11) (N := 15) (n := 15) hg inX11 (hts _ (List.mem_of_getElem? kz_142))
  obtain ⟨c12, i12, h12⟩ := u_known (C := RX12) (T := TX12) (N := 44) (n := 44) hg inX12 (hts _ (List.mem_of_getElem? kz_1471))
  obtain ⟨cI, kI, pI, f1, f2, f3⟩ := Cond.arrayClass_spec (hts _ (List.mem_of_getElem? kz_165))
  obtain ⟨cJ, kJ, pJ, e1, e2, e3⟩ := Cond.arrayClass_spec (hts _ (List.mem_of_getElem? kz_416))
  obtain ⟨pO, cO, kO, o1, o2, o3, o4, o5⟩ := Jvm.Stand.arrayOver_specB (hts _ (List.mem_of_getElem? kz_300))
  refine ⟨(fun k => if k = 0 then c0 else (if k = 1 then c1 else (if k = 2 then c2 else (if k = 3 then c3 else (if k = 4 then c4 else (if k = 5 then c5 else (if k = 6 then c6 else (if k = 7 then c7 else (if k = 8 then c8 else (if k = 9 then c9 else (if k = 10 then c10 else (if k = 11 then c11 else (c12)))))))))))), fun k => if k = 0 then i0 else (if k = 1 then i1 else (if k = 2 then i2 else (if k = 3 then i3 else (if k = 4 then i4 else (if k = 5 then i5 else (if k = 6 then i6 else (if k = 7 then i7 else (if k = 8 then i8 else (if k = 9 then i9 else (if k = 10 then i10 else (if k = 11 then i11 else (i12))))))))))))), (cI, cJ, cO), fun k q hq => ?_, fun k q hq => ?_⟩
  · match k, hq with
    | 0, hq => cases hq; exact h0
    | 1, hq => cases hq; exact h1
    | 2, hq => cases hq; exact h2
    | 3, hq => cases hq; exact h3
    | 4, hq => cases hq; exact h4
    | 5, hq => cases hq; exact h5
    | 6, hq => cases hq; exact h6
    | 7, hq => cases hq; exact h7
    | 8, hq => cases hq; exact h8
    | 9, hq => cases hq; exact h9
    | 10, hq => cases hq; exact h10
    | 11, hq => cases hq; exact h11
    | 12, hq => cases hq; exact h12
    | k + 13, hq => simp [vwCl] at hq
  · match k, hq with
    | 0, hq => cases hq; exact ⟨fun n z => ⟨fun k h => (by cases h), kI, f2, pI, f3⟩, f1⟩
    | 1, hq => cases hq; exact ⟨fun n z => ⟨fun k h => (by cases h), kJ, e2, pJ, e3⟩, e1⟩
    | 2, hq => cases hq; exact ⟨fun n z => ⟨fun k h => (by cases h), kO, o3, pO, o4⟩, o5⟩
    | k + 3, hq => simp [am_ty] at hq
