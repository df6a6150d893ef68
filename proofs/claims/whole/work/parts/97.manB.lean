/-! MAN THROWS -/
theorem nsX0 : decode nsR 0 = .ok (.aload_n 0, 1) := by decide +kernel
theorem nsX1 : decode nsR 1 = .ok (.aload_n 1, 1) := by decide +kernel
theorem nsX2 : decode nsR 2 = .ok (.invokespecial 13, 3) := by decide +kernel
theorem nsX5 : decode nsR 5 = .ok (.return_, 1) := by decide +kernel
theorem nsF : Bundle.fit nsE = true := by decide +kernel
theorem nsFn : ∀ n ∈ nsN, Bundle.fit n = true := by decide +kernel
section MB
variable {p : Program} {l : Launch} {e : Env} {R : Room} {s : State} {m : MethodId} {args : Array Value} {below : List Frame} {meth : Method} {c : Code} {H : Heap} {locs : List Loc} {cells slots : Nat} {Qc : Array Value → State → Outcome → State → Prop} {XC : String → State → State → Prop} {free : Addr → Prop}
theorem am_throw {cc : ByteArray} {pc : Nat} {ls : Array Slot} {rest : List Value} (hexec : p.tables.exec = Jvm.exec) (hb : c.code = cc) (hl : l.stackTraces = false) {text : String} {is mc ms sa : Nat} {A : Nat → Prop} (hown : s.vm.findClass RX11 = some m.cls)
    (hk : (Cond.classLink RX11 158 nsE).before args s = true) (hini : (Cond.initialized nsE).before args s = true) (hstr : vk_R RX11 is text sa s) (hat : ∀ w ∈ nsW, w.before args s = true)
    (hU : vx_Zq Bundle.tN "UNASSIGNED_STACK" Bundle.steD A s s.heap) (hN : vx_Zq Bundle.tN "SUPPRESSED_SENTINEL" Bundle.listD A s s.heap) (hS : va_S A s.heap H locs) (hsize : ls.size = c.maxLocals)
    (d0 : decode cc pc = .ok (.new 158, 3)) (d3 : decode cc (pc + 3) = .ok (.dup, 1)) (d4 : decode cc (pc + 4) = .ok (.ldc is, 2)) (d6 : decode cc (pc + 6) = .ok (.invokespecial 162, 3)) (d9 : decode cc (pc + 9) = .ok (.athrow, 1))
    (hout : ∀ x ∈ c.exceptionTable.toList, covers x (pc + 9) = false) (hRf : 5 < R.frames) (hRl : (rest.map fun v => v.category).sum + 82 ≤ R.locals) (hRc : cells + 1 ≤ R.cells) (hRs : slots + 6 ≤ R.slots) (hlocks : meth.locks = false)
    (hx : ∀ t : State, s.vm.Alike t.vm → H.size ≤ t.heap.size → (∀ q : Nat, q < H.size → t.heap[q]? = H[q]?) → XC nsE s t) (hf : ∀ z ∈ locs, free z.base) (hc : cells + 1 ≤ mc) (hs : slots + 6 ≤ ms) :
    W p l e R s m args below meth c H locs cells slots (vx_MQ below Qc XC args s mc ms free) (F0 m pc ls rest) := by
  intro T hT X
  have htr : e.platform.stackTraces = false := (show e.platform.stackTraces = l.stackTraces by rw [X.admits.platform]).trans hl
  have Y := vx_rebase X (R' := { frames := R.frames, locals := R.locals, cells := 1, slots := 6 }) (Nat.le_refl _) (Nat.le_refl _) hRc hRs
  obtain ⟨s', hA⟩ : ∃ z, z = (T.setVm s.vm).setFrames (.invoking m args :: below) := ⟨_, rfl⟩
  rw [← hA] at Y
  have hvm : s'.vm = s.vm := by rw [hA]; rfl
  have hhp : s'.heap = H := by rw [hA]; exact hT
  have hW0 : s.WarmedH s'.vm := by rw [hvm]; exact State.WarmedH.refl s
  have hgood : ∀ w ∈ Cond.classLink RX11 158 nsE :: Cond.initialized nsE :: nsW, vx_ot w = true := fun w hw => List.all_eq_true.mp nsC w hw
  have hat' : ∀ w ∈ nsW, w.before args s' = true := fun w hw => vx_ot_at hW0 hvm.symm (hgood w (List.mem_cons_of_mem _ (List.mem_cons_of_mem _ hw))) (hat w hw)
  have hk' : (Cond.classLink RX11 158 nsE).before args s' = true := vx_ot_at hW0 hvm.symm (hgood _ List.mem_cons_self) hk
  have hini' : (Cond.initialized nsE).before args s' = true := vx_ot_at hW0 hvm.symm (hgood _ (List.mem_cons_of_mem _ List.mem_cons_self)) hini
  have hU' : vx_Zq Bundle.tN "UNASSIGNED_STACK" Bundle.steD A s' s'.heap := by rw [hhp]; exact vx_Zq.moved hW0.alike (hU.kept hS.2.1)
  have hN' : vx_Zq Bundle.tN "SUPPRESSED_SENTINEL" Bundle.listD A s' s'.heap := by rw [hhp]; exact vx_Zq.moved hW0.alike (hN.kept hS.2.1)
  have h : ∀ w ∈ nsV, w.before args s' = true := vx_own hat' (vx_isRefq hU'.1) (vx_isRefq hN'.1) hU'.2.word hN'.2.word
  have hown' : s'.vm.findClass RX11 = some m.cls := by rw [hvm]; exact hown
  have hins : (Cond.instantiable nsE 6).before args s' = true := h _ (by simp [nsV, Bundle.ownAtomsX])
  obtain ⟨vm₁, cX, kX, hfX, hkX, -, -, X₁, st1⟩ := Y.newCold hexec (own := RX11) (C := nsE) (index := 158) (n := 6) hown' hk' hins hini'
    (g := F0 m pc ls rest) rfl (by rw [hb]; exact d0) (Nat.le_refl _) (Nat.le_refl _)
  generalize hT1 : (T.setVm vm₁).pushCell { cls := cX, slots := kX.instanceTypes.map defaultValue, vm := .none } = T1 at X₁ st1
  have hcat : (Value.ref T.heap.size).category = 1 := rfl
  have hcellA : T1.heap[T.heap.size]? = some (freshCell cX kX) := by rw [← hT1]; exact State.heap_pushCell_size _ _
  have d3' : decode c.code (pc + 3) = .ok (.dup, 1) := by rw [hb]; exact d3
  have d4' : decode c.code (pc + 4) = .ok (.ldc is, 2) := by rw [hb]; exact d4
  have hstr' : vk_R RX11 is text sa s' := vk_R.warm hW0 hstr
  obtain ⟨U, hsteps, hrun, hend, hW, hsame, ce, hce, hcc, hcv⟩ := am_ctorX X₁ hexec htr (own := RX11) (cls := nsE) (names := nsN) (ic := 162) nsX0 nsX1 nsX2 nsX5 hown' nsF nsFn h (fun x hx => nomatch hx) hfX hkX hcellA (by rw [hhp, hT]; exact Nat.le_refl _) (msg := .ref sa) rfl
    (g := { method := m, pc := pc + 6, locals := ls, stack := .ref sa :: .ref T.heap.size :: .ref T.heap.size :: rest, locked := none }) rfl hsize rfl rfl (rest := rest) rfl
    (by rw [hb]; exact d6) (by rw [hb]; exact d9) hout (by show 2 + 3 < R.frames; omega) (by simp only [List.map_cons, List.sum_cons, hcat]; show _ + (13 * (2 + 1) + 42) ≤ R.locals; omega) hlocks
  obtain ⟨f1, f2⟩ := vx_frame hsame
  rw [hhp] at f1 f2
  have hWs : s.WarmedH U.vm := State.WarmedH.trans hW0 hW
  have hcl : s.vm.findClass nsE = some ce.cls := by
    rw [hcc]
    rw [hvm] at hfX
    exact hfX
  have hall : s.sameButNew ({ U with vm := s.vm } : State) locs mc ms := by
    subst hA
    obtain ⟨e1, e2⟩ := hsame
    rw [State.setFrames_setFrames] at e1
    have h2 : (T.setVm s.vm).sameButNew ({ U with vm := s.vm } : State) [] (0 + 1) (0 + 6) := ⟨e1, e2⟩
    have h3 := X.same.trans h2
    rw [List.append_nil] at h3
    exact h3.mono hc hs
  refine ⟨U, ?_, .threw T.heap.size, hrun, hend, Or.inr ⟨T.heap.size, rfl, nsE, ce, locs, hx U hWs.alike f1 (fun q hq => f2 q hq (fun z hz => nomatch hz)), hce, hcv, hcl, hWs, hall, hf⟩⟩
  refine st1 _ ?_
  show Steps p.tables e below (T1.setTop { method := m, pc := pc + 3, locals := ls, stack := .ref T.heap.size :: rest, locked := none }) _
  jvm_step X₁.here [X₁.here.top, hexec, d3', Value.category]
  exact X₁.ldcString hexec (own := RX11) (text := text) (index := is) (a := sa) hown' hstr'.1 hstr'.2
    (g := { method := m, pc := pc + 4, locals := ls, stack := .ref T.heap.size :: .ref T.heap.size :: rest, locked := none }) rfl d4' _ hsteps
end MB
/-- the walk of man up to its throws -/
theorem wX11_man {x : am_X} {Q : State → Prop} {al : Bool} {dd mc ms : Nat} (hdd : 1903 ≤ dd) (hc : am_ok x cX11_man yX11_man 3 (some .int) dd mc ms) (a1 a2 : Int32) (I : am_I) (L : am_L) {v : Int32} (hh : fX9_hasMan_war am_N 1900 a1 I L = some (v, I, L)) (hb : v = 0 ∨ (¬ v = 0 ∧ (a2.toInt < 0 ∨ 9 ≤ a2.toInt)))
    (k1 : am_JQ x Q 11 [some (.ref 0), some (.int a1), some (.int a2)] [] (KC al) (RC al) I L 0 0) (k2 : am_JQ x Q 176 [some (.ref 0), some (.int a1), some (.int a2)] [] (KC al) (RC al) I L 0 0) : am_JQ x Q 0 [some (.ref 0), some (.int a1), some (.int a2)] [] (KC al) (RC al) I L 0 0 := by
  have hf : am_b3 (fX9_hasMan_war am_N 1900 a1 I L) (fun v I' L' => some (v, I', L')) = some (v, I, L) := by rw [hh]; rfl
  refine j_aload_n hc dX11_man_0 rfl ?_
  refine j_getR (u := 3) hc dX11_man_1 (fgC_X11_19_0 _) (rC_0_1 _) ?_
  refine j_iload_n hc dX11_man_4 rfl ?_
  refine j_callVI (t := 3) (As := [.int a1]) hc dX11_man_5 kw_978 mX9_hasMan (kC_3 _) clX9 rfl (by omega) (Nat.le_of_ble_eq_true rfl) (Nat.le_of_ble_eq_true rfl) ⟨Nat.zero_le _, Nat.zero_le _⟩ hf (fun v I' L' h => qX9_hasMan_war x.2.1 am_N 1900 a1 I L v I' L' h) (fun v1 I1 L1 hf => ?_)
  cases hf
  rcases hb with hb | ⟨hb, hr⟩
  · have hf : (if v = 0 then some () else none) = some () := if_pos hb
    refine j_if_ne (tgt := 21) hc dX11_man_8 rfl hf (fun hf => by cases hf) (fun _ => k1)
  · have hf : (if v = 0 then none else some ()) = some () := if_neg hb
    refine j_if_ne (tgt := 21) hc dX11_man_8 rfl hf (fun _ => ?_) (fun hf => by cases hf)
    refine j_iload_n hc dX11_man_21 rfl ?_
    have hs : am_sw a2 0 [none, none, none, none, none, none, none, none, none] (some ()) = some () := by
      unfold am_sw
      by_cases q : a2.toInt < 0
      · rw [if_pos q]
      · rw [if_neg q]
        have : 9 ≤ (a2.toInt - 0).toNat := by omega
        rw [List.getElem?_eq_none (by simpa using this)]
    refine j_tab (lo := 0) (tgt := 176) hc dX11_man_22 rfl rfl rfl hs (fun _ => k2) (fun k K off tgt2 hK ho ht hf => ?_) (fun k off ho => ?_)
    · match k, hK with
      | 0, hK => cases hK; cases hf
      | 1, hK => cases hK; cases hf
      | 2, hK => cases hK; cases hf
      | 3, hK => cases hK; cases hf
      | 4, hK => cases hK; cases hf
      | 5, hK => cases hK; cases hf
      | 6, hK => cases hK; cases hf
      | 7, hK => cases hK; cases hf
      | 8, hK => cases hK; cases hf
      | k + 9, hK => simp at hK
    · match k, ho with
      | 0, ho => have ho : (50 : Int) = off := Option.some.inj ho; subst ho; exact ⟨72, rfl⟩
      | 1, ho => have ho : (60 : Int) = off := Option.some.inj ho; subst ho; exact ⟨82, rfl⟩
      | 2, ho => have ho : (70 : Int) = off := Option.some.inj ho; subst ho; exact ⟨92, rfl⟩
      | 3, ho => have ho : (80 : Int) = off := Option.some.inj ho; subst ho; exact ⟨102, rfl⟩
      | 4, ho => have ho : (90 : Int) = off := Option.some.inj ho; subst ho; exact ⟨112, rfl⟩
      | 5, ho => have ho : (100 : Int) = off := Option.some.inj ho; subst ho; exact ⟨122, rfl⟩
      | 6, ho => have ho : (110 : Int) = off := Option.some.inj ho; subst ho; exact ⟨132, rfl⟩
      | 7, ho => have ho : (120 : Int) = off := Option.some.inj ho; subst ho; exact ⟨142, rfl⟩
      | 8, ho => have ho : (137 : Int) = off := Option.some.inj ho; subst ho; exact ⟨159, rfl⟩
      | k + 9, ho => simp at ho
theorem nsWt {s : State} {args : Array Value} (hts : ∀ w ∈ am_gd, w.before args s = true) (h : ∀ w ∈ nsB, w.before #[] s = true) : ∀ w ∈ nsW, w.before args s = true := by
  have hB : ∀ w ∈ nsB, w.before args s = true := vx_c (h _ List.mem_cons_self) (vx_c (h _ (List.mem_cons_of_mem _ List.mem_cons_self)) (vx_c (h _ (List.mem_cons_of_mem _ (List.mem_cons_of_mem _ List.mem_cons_self))) (vx_c (h _ (List.mem_cons_of_mem _ (List.mem_cons_of_mem _ (List.mem_cons_of_mem _ List.mem_cons_self)))) vx_n)))
  refine vx_hat (B := nsB) (fun w hw => hts w ?_) (fun w hw => ?_) hB
  · exact List.mem_filter.mpr ⟨of_decide_eq_true (List.all_eq_true.mp nsG w hw), (List.mem_filter.mp hw).2⟩
  · exact of_decide_eq_true (List.all_eq_true.mp nsD w hw)
