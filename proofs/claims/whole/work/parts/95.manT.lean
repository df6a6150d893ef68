/-! MAN'S THROWS: the words of 'throw new NoSuchElementException("..")' in LastHome -/
def nsE : String := "java/util/NoSuchElementException"
def nsN : List String := ["java/lang/RuntimeException", "java/lang/Exception"]
/-- the bytes of NoSuchElementException's constructor: aload_0, aload_1, invokespecial 13, return -/
def nsR : ByteArray := ⟨#[0x2a, 0x2b, 0xb7, 0x00, 0x0d, 0xb1]⟩
def nsV : List Cond := Bundle.ownAtomsX RX11 162 nsE 13 nsR nsN
def nsW : List Cond := nsV.filter vx_no
def nsB : List Cond := [.castable nsE nsE, .declares ⟨"java/lang/RuntimeException", "<init>", "(Ljava/lang/String;)V"⟩, .declares ⟨"java/lang/Exception", "<init>", "(Ljava/lang/String;)V"⟩, .declares ⟨"java/lang/Throwable", "<init>", "(Ljava/lang/String;)V"⟩]
theorem nsC : (Cond.classLink RX11 158 nsE :: Cond.initialized nsE :: nsW).all vx_ot = true := by decide +kernel
theorem nsD : (nsW.filter (fun w => !goodWord w)).all (fun w => decide (w ∈ nsB)) = true := by decide +kernel
theorem nsG : (nsW.filter goodWord).all (fun w => decide (w ∈ lw_tbl)) = true := by decide +kernel
theorem nsH0 : decide (Cond.castable nsE nsE ∈ lw_tbl) = true := by decide +kernel
theorem nsH1 : decide (Cond.declares ⟨"java/lang/RuntimeException", "<init>", "(Ljava/lang/String;)V"⟩ ∈ lw_tbl) = true := by decide +kernel
theorem nsH2 : decide (Cond.declares ⟨"java/lang/Exception", "<init>", "(Ljava/lang/String;)V"⟩ ∈ lw_tbl) = true := by decide +kernel
theorem nsH3 : decide (Cond.declares ⟨"java/lang/Throwable", "<init>", "(Ljava/lang/String;)V"⟩ ∈ lw_tbl) = true := by decide +kernel
theorem kn_1399 : lw_tbl[1399]? = some (Cond.classLink RL 13 nsE) := by decide +kernel
theorem kn_1404 : lw_tbl[1404]? = some (Cond.classLink RX11 158 nsE) := by decide +kernel
theorem kn_139 : lw_tbl[139]? = some (Cond.initialized nsE) := by decide +kernel
theorem kn_1396 : lw_tbl[1396]? = some (Cond.methodLink RL 38 yL_man) := by decide +kernel
theorem kn_1397 : lw_tbl[1397]? = some (Cond.static yL_man) := by decide +kernel
theorem kn_1398 : lw_tbl[1398]? = some (Cond.codeWith yL_man cL_man 5 (some .int) [(0, 10, 13, 13)]) := by decide +kernel
theorem kn_1400 : lw_tbl[1400]? = some (Cond.methodLink RL 7 yX11_man) := by decide +kernel
/-- what a throw of man's needs of the start -/
def am_T (A : Nat → Prop) (U : State) (H : Heap) : Prop := vx_Zq Bundle.tN "UNASSIGNED_STACK" Bundle.steD A U H ∧ vx_Zq Bundle.tN "SUPPRESSED_SENTINEL" Bundle.listD A U H ∧ (∃ sa, vk_R RX11 160 "no such man" sa U) ∧ (∃ sa, vk_R RX11 192 "no such thing of a man" sa U) ∧ ∀ w ∈ nsB, w.before #[] U = true
theorem nsB_moved {u U : State} (hvm : u.vm.Alike U.vm) (h : ∀ w ∈ nsB, w.before #[] u = true) : ∀ w ∈ nsB, w.before #[] U = true := by
  have c : ∀ a b, (Cond.castable a b).before #[] u = true → (Cond.castable a b).before #[] U = true := fun a b h => by
    have e : (Cond.castable a b).before #[] U = (Cond.castable a b).before #[] (u.setVm U.vm) := rfl
    rw [e, Cond.castable_setVm hvm]; exact h
  have d : ∀ x, (Cond.declares x).before #[] u = true → (Cond.declares x).before #[] U = true := fun x h => by
    have e : (Cond.declares x).before #[] U = (Cond.declares x).before #[] (u.setVm U.vm) := rfl
    rw [e, Cond.declares_setVm hvm]; exact h
  have h0 := h _ (List.mem_cons_self)
  have h1 := h _ (List.mem_cons_of_mem _ List.mem_cons_self)
  have h2 := h _ (List.mem_cons_of_mem _ (List.mem_cons_of_mem _ List.mem_cons_self))
  have h3 := h _ (List.mem_cons_of_mem _ (List.mem_cons_of_mem _ (List.mem_cons_of_mem _ List.mem_cons_self)))
  exact vx_c (c _ _ h0) (vx_c (d _ h1) (vx_c (d _ h2) (vx_c (d _ h3) vx_n)))
theorem am_T_warm {A : Nat → Prop} {s U : State} {H : Heap} (hW : s.WarmedH U.vm) (h : am_T A s H) : am_T A U H := by
  obtain ⟨h1, h2, ⟨a, h3⟩, ⟨b, h4⟩, h5⟩ := h
  exact ⟨h1.moved hW.alike, h2.moved hW.alike, ⟨a, h3.warm hW⟩, ⟨b, h4.warm hW⟩, nsB_moved hW.alike h5⟩
theorem am_T_same {A : Nat → Prop} {s U : State} {H : Heap} (hv : U.vm = s.vm) (h : am_T A s H) : am_T A U H := by
  have hal : s.vm.Alike U.vm := by rw [hv]; exact Vm.Alike.refl _
  obtain ⟨h1, h2, ⟨a, h3⟩, ⟨b, h4⟩, h5⟩ := h
  exact ⟨h1.moved hal, h2.moved hal, ⟨a, h3.same hv⟩, ⟨b, h4.same hv⟩, nsB_moved hal h5⟩
theorem am_T_call {A A1 : Nat → Prop} {H0 H : Heap} {locs : List Loc} {U : State} (hS : va_S A H0 H locs) (hsub : ∀ q, A1 q → A q) (h : am_T A U H0) : am_T A1 U H := by
  obtain ⟨h1, h2, h3, h4, h5⟩ := h
  exact ⟨(h1.kept hS.2.1).narrow hsub, (h2.kept hS.2.1).narrow hsub, h3, h4, h5⟩
