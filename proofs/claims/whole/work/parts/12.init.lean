theorem am_introA {l : Launch} {y : MethodName} {cc : ByteArray} {n : Nat} {ret : Option FieldType} {d mc ms : Nat} {k0 : Nat → Prop} {av : List Value} {ks : List am_k} {R : am_R} {I : am_I} {L : am_L} {res : am_S → Prop} (hy : plainFor y = true) (hk0 : ∀ k, 1000000 ≤ k → k0 k) (hn : (lg_sl av).length ≤ n)
    (h : ∀ x : am_X, x.2.1 = l → am_ok x cc y n ret d mc ms → am_k0 x = k0 → am_J x res 0 (am_en av) [] ks R I L 0 0) : am_CA l y cc n ret d mc ms k0 av ks R I L res := by
  intro D G a sz
  refine am_ofW (cc := cc) (maxL := n) (ret := ret) hy rfl ?_
  intro p e s m args below meth c s₁ B hml hv
  obtain ⟨rfl, hsz, hP, hK, hD0, hE⟩ := hv
  have hts := atoms_spec (ws := am_wd y cc n ret) B.pre
  subst hsz
  have hD := hD0.self (sz := s.heap.size)
  have hl := lv_entry (av.map (am_v a)) (n := n) (by rw [am_sl]; exact hn)
  rw [lg_entry_eq]
  generalize (lg_sl (av.map (am_v a)) ++ List.replicate (n - (lg_sl (av.map (am_v a))).length) Slot.unset).toArray = ls at hl ⊢
  have hl2 : am_has ls c.maxLocals a (am_en av) := ⟨hl.1.trans hml.symm, hl.2.1, fun i v hi => by
    have := hl.2.2 _ (am_en_at a av 0 i v hi)
    simpa using this⟩
  exact h (p, l, e, (headSpec (am_wd y cc n ret) { frames := d, cells := mc, slots := ms, locals := 40 * d }).room, s, m, (av.map (am_v a)).toArray, below, meth, c, D, G, va_A (am_ws G a ks R I L) s.heap.size, a, k0, mc, ms) rfl
    ⟨B.exec, B.bytes, findClass_of_methodNamed B.named, fun w hw => hts w (List.mem_cons_of_mem _ hw), B.returns, B.notSynchronized, hK, fun q hq => Or.inr hq, Nat.le_refl _, Nat.le_refl _, ⟨rfl, rfl, Nat.le_refl _, Nat.le_refl _⟩, hml, (name_of_methodNamed B.named B.method).1, hE, hk0⟩ rfl a s.heap ls [] (fun _ _ => rfl) hP hD va_S.rf hl2
theorem am_k8 {x : am_X} {n0 n : Nat} (h : am_k0 x = fun k => k < n0 ∨ 1000000 ≤ k) (h1 : n0 ≤ n) (h2 : n < 1000000) : ∀ k, am_k0 x k → k ≠ n := by
  intro k hk e
  rw [h] at hk
  omega
theorem am_k9 {x : am_X} {n0 n : Nat} (h : am_k0 x = fun k => k < n0 ∨ 1000000 ≤ k) (h1 : n0 ≤ n) : ∀ k, am_k0 x k → k < n ∨ 1000000 ≤ k := by
  intro k hk
  rw [h] at hk
  omega
theorem am_IL_big {l : List (Nat × Nat × Int32)} {n k : Nat} (hk : n ≤ k) (h : l.all (fun q => Nat.blt q.1 n) = true) : am_IL l k = fun _ => 0 := by
  apply am_IL_no
  apply List.all_eq_true.mpr
  intro q hq
  have := List.all_eq_true.mp h q hq
  simp only [Nat.blt_eq] at this
  simp only [Bool.not_eq_true', beq_eq_false_iff_ne]
  omega
theorem ki_117 : lw_tbl[117]? = some (Cond.initialized RX8) := by decide +kernel
theorem ki_118 : lw_tbl[118]? = some (Cond.initialized RX9) := by decide +kernel
theorem ki_119 : lw_tbl[119]? = some (Cond.initialized RX10) := by decide +kernel
theorem ki_120 : lw_tbl[120]? = some (Cond.initialized RX2) := by decide +kernel
theorem ki_121 : lw_tbl[121]? = some (Cond.initialized RX3) := by decide +kernel
theorem ki_122 : lw_tbl[122]? = some (Cond.initialized RX7) := by decide +kernel
theorem ki_123 : lw_tbl[123]? = some (Cond.initialized RX5) := by decide +kernel
theorem ki_124 : lw_tbl[124]? = some (Cond.initialized RX6) := by decide +kernel
theorem ki_125 : lw_tbl[125]? = some (Cond.initialized RX0) := by decide +kernel
theorem ki_126 : lw_tbl[126]? = some (Cond.initialized RX1) := by decide +kernel
theorem ki_127 : lw_tbl[127]? = some (Cond.initialized RX4) := by decide +kernel
theorem ki_146 : lw_tbl[146]? = some (Cond.methodLink RX11 1 Lib.objectInit) := by decide +kernel
theorem ki_147 : lw_tbl[147]? = some (Cond.instanceMethod Lib.objectInit) := by decide +kernel
theorem ki_148 : lw_tbl[148]? = some (Cond.code Lib.objectInit ⟨#[0xb1]⟩ 1 none) := by decide +kernel
theorem ki_149 : lw_tbl[149]? = some (Cond.classLink RX11 7 RX8) := by decide +kernel
theorem ki_150 : lw_tbl[150]? = some (Cond.instantiable RX8 2) := by decide +kernel
theorem ki_152 : lw_tbl[152]? = some (Cond.instanceMethod yX8_init) := by decide +kernel
theorem ki_153 : lw_tbl[153]? = some (Cond.code yX8_init cX8_init 1 none) := by decide +kernel
theorem ki_154 : lw_tbl[154]? = some (Cond.methodLink RX8 3 Lib.objectInit) := by decide +kernel
theorem ki_155 : lw_tbl[155]? = some (Cond.fieldLink RX8 11 (TX8 0).1 (TX8 0).2.1 (TX8 0).2.2.1) := by decide +kernel
theorem ki_156 : lw_tbl[156]? = some (Cond.fieldLink RX8 15 (TX8 1).1 (TX8 1).2.1 (TX8 1).2.2.1) := by decide +kernel
theorem ki_165 : lw_tbl[165]? = some (Cond.arrayClass .int) := by decide +kernel
theorem ki_166 : lw_tbl[166]? = some (Cond.classLink RX11 16 RX9) := by decide +kernel
theorem ki_167 : lw_tbl[167]? = some (Cond.instantiable RX9 15) := by decide +kernel
theorem ki_169 : lw_tbl[169]? = some (Cond.instanceMethod yX9_init) := by decide +kernel
theorem ki_170 : lw_tbl[170]? = some (Cond.code yX9_init cX9_init 1 none) := by decide +kernel
theorem ki_171 : lw_tbl[171]? = some (Cond.methodLink RX9 1 Lib.objectInit) := by decide +kernel
theorem ki_172 : lw_tbl[172]? = some (Cond.fieldLink RX9 7 (TX9 0).1 (TX9 0).2.1 (TX9 0).2.2.1) := by decide +kernel
theorem ki_177 : lw_tbl[177]? = some (Cond.fieldLink RX9 13 (TX9 1).1 (TX9 1).2.1 (TX9 1).2.2.1) := by decide +kernel
theorem ki_180 : lw_tbl[180]? = some (Cond.fieldLink RX9 16 (TX9 2).1 (TX9 2).2.1 (TX9 2).2.2.1) := by decide +kernel
theorem ki_183 : lw_tbl[183]? = some (Cond.fieldLink RX9 19 (TX9 3).1 (TX9 3).2.1 (TX9 3).2.2.1) := by decide +kernel
theorem ki_187 : lw_tbl[187]? = some (Cond.fieldLink RX9 22 (TX9 4).1 (TX9 4).2.1 (TX9 4).2.2.1) := by decide +kernel
theorem ki_188 : lw_tbl[188]? = some (Cond.fieldLink RX9 26 (TX9 5).1 (TX9 5).2.1 (TX9 5).2.2.1) := by decide +kernel
theorem ki_192 : lw_tbl[192]? = some (Cond.fieldLink RX9 30 (TX9 6).1 (TX9 6).2.1 (TX9 6).2.2.1) := by decide +kernel
theorem ki_194 : lw_tbl[194]? = some (Cond.fieldLink RX9 33 (TX9 7).1 (TX9 7).2.1 (TX9 7).2.2.1) := by decide +kernel
theorem ki_197 : lw_tbl[197]? = some (Cond.fieldLink RX9 36 (TX9 8).1 (TX9 8).2.1 (TX9 8).2.2.1) := by decide +kernel
theorem ki_200 : lw_tbl[200]? = some (Cond.fieldLink RX9 39 (TX9 9).1 (TX9 9).2.1 (TX9 9).2.2.1) := by decide +kernel
theorem ki_203 : lw_tbl[203]? = some (Cond.fieldLink RX9 42 (TX9 10).1 (TX9 10).2.1 (TX9 10).2.2.1) := by decide +kernel
theorem ki_206 : lw_tbl[206]? = some (Cond.fieldLink RX9 45 (TX9 11).1 (TX9 11).2.1 (TX9 11).2.2.1) := by decide +kernel
theorem ki_208 : lw_tbl[208]? = some (Cond.fieldLink RX9 48 (TX9 12).1 (TX9 12).2.1 (TX9 12).2.2.1) := by decide +kernel
theorem ki_210 : lw_tbl[210]? = some (Cond.fieldLink RX9 51 (TX9 13).1 (TX9 13).2.1 (TX9 13).2.2.1) := by decide +kernel
theorem ki_213 : lw_tbl[213]? = some (Cond.fieldLink RX9 54 (TX9 14).1 (TX9 14).2.1 (TX9 14).2.2.1) := by decide +kernel
theorem ki_247 : lw_tbl[247]? = some (Cond.classLink RX11 26 RX10) := by decide +kernel
theorem ki_248 : lw_tbl[248]? = some (Cond.instantiable RX10 6) := by decide +kernel
theorem ki_249 : lw_tbl[249]? = some (Cond.methodLink RX11 28 yX10_init) := by decide +kernel
theorem ki_250 : lw_tbl[250]? = some (Cond.instanceMethod yX10_init) := by decide +kernel
theorem ki_251 : lw_tbl[251]? = some (Cond.code yX10_init cX10_init 3 none) := by decide +kernel
theorem ki_252 : lw_tbl[252]? = some (Cond.methodLink RX10 3 Lib.objectInit) := by decide +kernel
theorem ki_253 : lw_tbl[253]? = some (Cond.fieldLink RX10 26 (TX10 0).1 (TX10 0).2.1 (TX10 0).2.2.1) := by decide +kernel
theorem ki_254 : lw_tbl[254]? = some (Cond.fieldLink RX10 30 (TX10 1).1 (TX10 1).2.1 (TX10 1).2.2.1) := by decide +kernel
theorem ki_255 : lw_tbl[255]? = some (Cond.fieldLink RX10 11 (TX10 2).1 (TX10 2).2.1 (TX10 2).2.2.1) := by decide +kernel
theorem ki_256 : lw_tbl[256]? = some (Cond.fieldLink RX10 15 (TX10 3).1 (TX10 3).2.1 (TX10 3).2.2.1) := by decide +kernel
theorem ki_257 : lw_tbl[257]? = some (Cond.fieldLink RX10 19 (TX10 4).1 (TX10 4).2.1 (TX10 4).2.2.1) := by decide +kernel
theorem ki_258 : lw_tbl[258]? = some (Cond.fieldLink RX10 22 (TX10 5).1 (TX10 5).2.1 (TX10 5).2.2.1) := by decide +kernel
theorem ki_272 : lw_tbl[272]? = some (Cond.classLink RX11 35 RX2) := by decide +kernel
theorem ki_273 : lw_tbl[273]? = some (Cond.instantiable RX2 4) := by decide +kernel
theorem ki_274 : lw_tbl[274]? = some (Cond.methodLink RX11 37 yX2_init) := by decide +kernel
theorem ki_275 : lw_tbl[275]? = some (Cond.instanceMethod yX2_init) := by decide +kernel
theorem ki_276 : lw_tbl[276]? = some (Cond.code yX2_init cX2_init 2 none) := by decide +kernel
theorem ki_277 : lw_tbl[277]? = some (Cond.methodLink RX2 3 Lib.objectInit) := by decide +kernel
theorem ki_278 : lw_tbl[278]? = some (Cond.fieldLink RX2 24 (TX2 0).1 (TX2 0).2.1 (TX2 0).2.2.1) := by decide +kernel
theorem ki_279 : lw_tbl[279]? = some (Cond.fieldLink RX2 11 (TX2 1).1 (TX2 1).2.1 (TX2 1).2.2.1) := by decide +kernel
theorem ki_281 : lw_tbl[281]? = some (Cond.fieldLink RX2 17 (TX2 2).1 (TX2 2).2.1 (TX2 2).2.2.1) := by decide +kernel
theorem ki_283 : lw_tbl[283]? = some (Cond.fieldLink RX2 21 (TX2 3).1 (TX2 3).2.1 (TX2 3).2.2.1) := by decide +kernel
theorem ki_293 : lw_tbl[293]? = some (Cond.classLink RX11 44 RX3) := by decide +kernel
theorem ki_294 : lw_tbl[294]? = some (Cond.instantiable RX3 7) := by decide +kernel
theorem ki_296 : lw_tbl[296]? = some (Cond.instanceMethod yX3_init) := by decide +kernel
theorem ki_297 : lw_tbl[297]? = some (Cond.code yX3_init cX3_init 1 none) := by decide +kernel
theorem ki_298 : lw_tbl[298]? = some (Cond.methodLink RX3 5 Lib.objectInit) := by decide +kernel
theorem ki_299 : lw_tbl[299]? = some (Cond.classLink RX3 13 "[[I") := by decide +kernel
theorem ki_301 : lw_tbl[301]? = some (Cond.fieldLink RX3 15 (TX3 0).1 (TX3 0).2.1 (TX3 0).2.2.1) := by decide +kernel
theorem ki_302 : lw_tbl[302]? = some (Cond.fieldLink RX3 18 (TX3 1).1 (TX3 1).2.1 (TX3 1).2.2.1) := by decide +kernel
theorem ki_303 : lw_tbl[303]? = some (Cond.fieldLink RX3 22 (TX3 2).1 (TX3 2).2.1 (TX3 2).2.2.1) := by decide +kernel
theorem ki_304 : lw_tbl[304]? = some (Cond.fieldLink RX3 25 (TX3 3).1 (TX3 3).2.1 (TX3 3).2.2.1) := by decide +kernel
theorem ki_306 : lw_tbl[306]? = some (Cond.fieldLink RX3 28 (TX3 4).1 (TX3 4).2.1 (TX3 4).2.2.1) := by decide +kernel
theorem ki_308 : lw_tbl[308]? = some (Cond.fieldLink RX3 31 (TX3 5).1 (TX3 5).2.1 (TX3 5).2.2.1) := by decide +kernel
theorem ki_310 : lw_tbl[310]? = some (Cond.fieldLink RX3 35 (TX3 6).1 (TX3 6).2.1 (TX3 6).2.2.1) := by decide +kernel
theorem ki_328 : lw_tbl[328]? = some (Cond.classLink RX11 51 RX7) := by decide +kernel
theorem ki_329 : lw_tbl[329]? = some (Cond.instantiable RX7 7) := by decide +kernel
theorem ki_330 : lw_tbl[330]? = some (Cond.methodLink RX11 53 yX7_init) := by decide +kernel
theorem ki_331 : lw_tbl[331]? = some (Cond.instanceMethod yX7_init) := by decide +kernel
theorem ki_332 : lw_tbl[332]? = some (Cond.code yX7_init cX7_init 3 none) := by decide +kernel
theorem ki_333 : lw_tbl[333]? = some (Cond.methodLink RX7 3 Lib.objectInit) := by decide +kernel
theorem ki_334 : lw_tbl[334]? = some (Cond.fieldLink RX7 30 (TX7 0).1 (TX7 0).2.1 (TX7 0).2.2.1) := by decide +kernel
theorem ki_335 : lw_tbl[335]? = some (Cond.fieldLink RX7 34 (TX7 1).1 (TX7 1).2.1 (TX7 1).2.2.1) := by decide +kernel
theorem ki_336 : lw_tbl[336]? = some (Cond.fieldLink RX7 11 (TX7 2).1 (TX7 2).2.1 (TX7 2).2.2.1) := by decide +kernel
theorem ki_339 : lw_tbl[339]? = some (Cond.fieldLink RX7 17 (TX7 3).1 (TX7 3).2.1 (TX7 3).2.2.1) := by decide +kernel
theorem ki_341 : lw_tbl[341]? = some (Cond.fieldLink RX7 20 (TX7 4).1 (TX7 4).2.1 (TX7 4).2.2.1) := by decide +kernel
theorem ki_343 : lw_tbl[343]? = some (Cond.fieldLink RX7 24 (TX7 5).1 (TX7 5).2.1 (TX7 5).2.2.1) := by decide +kernel
theorem ki_346 : lw_tbl[346]? = some (Cond.fieldLink RX7 27 (TX7 6).1 (TX7 6).2.1 (TX7 6).2.2.1) := by decide +kernel
theorem ki_363 : lw_tbl[363]? = some (Cond.classLink RX11 60 RX5) := by decide +kernel
theorem ki_364 : lw_tbl[364]? = some (Cond.instantiable RX5 4) := by decide +kernel
theorem ki_366 : lw_tbl[366]? = some (Cond.instanceMethod yX5_init) := by decide +kernel
theorem ki_367 : lw_tbl[367]? = some (Cond.code yX5_init cX5_init 1 none) := by decide +kernel
theorem ki_368 : lw_tbl[368]? = some (Cond.methodLink RX5 7 Lib.objectInit) := by decide +kernel
theorem ki_369 : lw_tbl[369]? = some (Cond.fieldLink RX5 13 (TX5 0).1 (TX5 0).2.1 (TX5 0).2.2.1) := by decide +kernel
theorem ki_370 : lw_tbl[370]? = some (Cond.fieldLink RX5 17 (TX5 1).1 (TX5 1).2.1 (TX5 1).2.2.1) := by decide +kernel
theorem ki_371 : lw_tbl[371]? = some (Cond.fieldLink RX5 20 (TX5 2).1 (TX5 2).2.1 (TX5 2).2.2.1) := by decide +kernel
theorem ki_372 : lw_tbl[372]? = some (Cond.fieldLink RX5 24 (TX5 3).1 (TX5 3).2.1 (TX5 3).2.2.1) := by decide +kernel
theorem ki_383 : lw_tbl[383]? = some (Cond.classLink RX11 67 RX6) := by decide +kernel
theorem ki_384 : lw_tbl[384]? = some (Cond.instantiable RX6 8) := by decide +kernel
theorem ki_386 : lw_tbl[386]? = some (Cond.instanceMethod yX6_init) := by decide +kernel
theorem ki_387 : lw_tbl[387]? = some (Cond.code yX6_init cX6_init 1 none) := by decide +kernel
theorem ki_388 : lw_tbl[388]? = some (Cond.methodLink RX6 3 Lib.objectInit) := by decide +kernel
theorem ki_389 : lw_tbl[389]? = some (Cond.fieldLink RX6 9 (TX6 0).1 (TX6 0).2.1 (TX6 0).2.2.1) := by decide +kernel
theorem ki_390 : lw_tbl[390]? = some (Cond.fieldLink RX6 13 (TX6 1).1 (TX6 1).2.1 (TX6 1).2.2.1) := by decide +kernel
theorem ki_391 : lw_tbl[391]? = some (Cond.fieldLink RX6 16 (TX6 2).1 (TX6 2).2.1 (TX6 2).2.2.1) := by decide +kernel
theorem ki_392 : lw_tbl[392]? = some (Cond.fieldLink RX6 20 (TX6 3).1 (TX6 3).2.1 (TX6 3).2.2.1) := by decide +kernel
theorem ki_393 : lw_tbl[393]? = some (Cond.fieldLink RX6 23 (TX6 4).1 (TX6 4).2.1 (TX6 4).2.2.1) := by decide +kernel
theorem ki_394 : lw_tbl[394]? = some (Cond.fieldLink RX6 26 (TX6 5).1 (TX6 5).2.1 (TX6 5).2.2.1) := by decide +kernel
theorem ki_395 : lw_tbl[395]? = some (Cond.fieldLink RX6 30 (TX6 6).1 (TX6 6).2.1 (TX6 6).2.2.1) := by decide +kernel
theorem ki_397 : lw_tbl[397]? = some (Cond.fieldLink RX6 33 (TX6 7).1 (TX6 7).2.1 (TX6 7).2.2.1) := by decide +kernel
theorem ki_416 : lw_tbl[416]? = some (Cond.arrayClass .long) := by decide +kernel
theorem ki_417 : lw_tbl[417]? = some (Cond.classLink RX11 74 RX0) := by decide +kernel
theorem ki_418 : lw_tbl[418]? = some (Cond.instantiable RX0 12) := by decide +kernel
theorem ki_420 : lw_tbl[420]? = some (Cond.instanceMethod yX0_init) := by decide +kernel
theorem ki_421 : lw_tbl[421]? = some (Cond.code yX0_init cX0_init 1 none) := by decide +kernel
theorem ki_422 : lw_tbl[422]? = some (Cond.methodLink RX0 7 Lib.objectInit) := by decide +kernel
theorem ki_423 : lw_tbl[423]? = some (Cond.fieldLink RX0 13 (TX0 0).1 (TX0 0).2.1 (TX0 0).2.2.1) := by decide +kernel
theorem ki_424 : lw_tbl[424]? = some (Cond.fieldLink RX0 17 (TX0 1).1 (TX0 1).2.1 (TX0 1).2.2.1) := by decide +kernel
theorem ki_425 : lw_tbl[425]? = some (Cond.fieldLink RX0 20 (TX0 2).1 (TX0 2).2.1 (TX0 2).2.2.1) := by decide +kernel
theorem ki_426 : lw_tbl[426]? = some (Cond.fieldLink RX0 23 (TX0 3).1 (TX0 3).2.1 (TX0 3).2.2.1) := by decide +kernel
theorem ki_427 : lw_tbl[427]? = some (Cond.fieldLink RX0 26 (TX0 4).1 (TX0 4).2.1 (TX0 4).2.2.1) := by decide +kernel
theorem ki_428 : lw_tbl[428]? = some (Cond.fieldLink RX0 29 (TX0 5).1 (TX0 5).2.1 (TX0 5).2.2.1) := by decide +kernel
theorem ki_429 : lw_tbl[429]? = some (Cond.fieldLink RX0 32 (TX0 6).1 (TX0 6).2.1 (TX0 6).2.2.1) := by decide +kernel
theorem ki_430 : lw_tbl[430]? = some (Cond.fieldLink RX0 35 (TX0 7).1 (TX0 7).2.1 (TX0 7).2.2.1) := by decide +kernel
theorem ki_431 : lw_tbl[431]? = some (Cond.fieldLink RX0 38 (TX0 8).1 (TX0 8).2.1 (TX0 8).2.2.1) := by decide +kernel
theorem ki_432 : lw_tbl[432]? = some (Cond.fieldLink RX0 42 (TX0 9).1 (TX0 9).2.1 (TX0 9).2.2.1) := by decide +kernel
theorem ki_433 : lw_tbl[433]? = some (Cond.fieldLink RX0 45 (TX0 10).1 (TX0 10).2.1 (TX0 10).2.2.1) := by decide +kernel
theorem ki_434 : lw_tbl[434]? = some (Cond.fieldLink RX0 48 (TX0 11).1 (TX0 11).2.1 (TX0 11).2.2.1) := by decide +kernel
theorem ki_460 : lw_tbl[460]? = some (Cond.classLink RX11 81 RX1) := by decide +kernel
theorem ki_461 : lw_tbl[461]? = some (Cond.instantiable RX1 4) := by decide +kernel
theorem ki_462 : lw_tbl[462]? = some (Cond.methodLink RX11 83 yX1_init) := by decide +kernel
theorem ki_463 : lw_tbl[463]? = some (Cond.instanceMethod yX1_init) := by decide +kernel
theorem ki_464 : lw_tbl[464]? = some (Cond.code yX1_init cX1_init 3 none) := by decide +kernel
theorem ki_465 : lw_tbl[465]? = some (Cond.methodLink RX1 1 Lib.objectInit) := by decide +kernel
theorem ki_466 : lw_tbl[466]? = some (Cond.fieldLink RX1 19 (TX1 0).1 (TX1 0).2.1 (TX1 0).2.2.1) := by decide +kernel
theorem ki_467 : lw_tbl[467]? = some (Cond.fieldLink RX1 23 (TX1 1).1 (TX1 1).2.1 (TX1 1).2.2.1) := by decide +kernel
theorem ki_468 : lw_tbl[468]? = some (Cond.fieldLink RX1 9 (TX1 2).1 (TX1 2).2.1 (TX1 2).2.2.1) := by decide +kernel
theorem ki_469 : lw_tbl[469]? = some (Cond.fieldLink RX1 15 (TX1 3).1 (TX1 3).2.1 (TX1 3).2.2.1) := by decide +kernel
theorem ki_479 : lw_tbl[479]? = some (Cond.classLink RX11 90 RX4) := by decide +kernel
theorem ki_480 : lw_tbl[480]? = some (Cond.instantiable RX4 6) := by decide +kernel
theorem ki_482 : lw_tbl[482]? = some (Cond.instanceMethod yX4_init) := by decide +kernel
theorem ki_483 : lw_tbl[483]? = some (Cond.code yX4_init cX4_init 1 none) := by decide +kernel
theorem ki_484 : lw_tbl[484]? = some (Cond.methodLink RX4 5 Lib.objectInit) := by decide +kernel
theorem ki_485 : lw_tbl[485]? = some (Cond.fieldLink RX4 11 (TX4 0).1 (TX4 0).2.1 (TX4 0).2.2.1) := by decide +kernel
theorem ki_486 : lw_tbl[486]? = some (Cond.fieldLink RX4 15 (TX4 1).1 (TX4 1).2.1 (TX4 1).2.2.1) := by decide +kernel
theorem ki_487 : lw_tbl[487]? = some (Cond.fieldLink RX4 18 (TX4 2).1 (TX4 2).2.1 (TX4 2).2.2.1) := by decide +kernel
theorem ki_488 : lw_tbl[488]? = some (Cond.fieldLink RX4 21 (TX4 3).1 (TX4 3).2.1 (TX4 3).2.2.1) := by decide +kernel
theorem ki_489 : lw_tbl[489]? = some (Cond.fieldLink RX4 24 (TX4 4).1 (TX4 4).2.1 (TX4 4).2.2.1) := by decide +kernel
theorem ki_491 : lw_tbl[491]? = some (Cond.fieldLink RX4 28 (TX4 5).1 (TX4 5).2.1 (TX4 5).2.2.1) := by decide +kernel
theorem ki_506 : lw_tbl[506]? = some (Cond.fieldLink RX11 10 (TX11 0).1 (TX11 0).2.1 (TX11 0).2.2.1) := by decide +kernel
theorem ki_507 : lw_tbl[507]? = some (Cond.fieldLink RX11 19 (TX11 1).1 (TX11 1).2.1 (TX11 1).2.2.1) := by decide +kernel
theorem ki_508 : lw_tbl[508]? = some (Cond.fieldLink RX11 23 (TX11 2).1 (TX11 2).2.1 (TX11 2).2.2.1) := by decide +kernel
theorem ki_509 : lw_tbl[509]? = some (Cond.fieldLink RX11 31 (TX11 3).1 (TX11 3).2.1 (TX11 3).2.2.1) := by decide +kernel
theorem ki_510 : lw_tbl[510]? = some (Cond.fieldLink RX11 40 (TX11 4).1 (TX11 4).2.1 (TX11 4).2.2.1) := by decide +kernel
theorem ki_511 : lw_tbl[511]? = some (Cond.fieldLink RX11 47 (TX11 5).1 (TX11 5).2.1 (TX11 5).2.2.1) := by decide +kernel
theorem ki_512 : lw_tbl[512]? = some (Cond.fieldLink RX11 56 (TX11 6).1 (TX11 6).2.1 (TX11 6).2.2.1) := by decide +kernel
theorem ki_513 : lw_tbl[513]? = some (Cond.fieldLink RX11 63 (TX11 7).1 (TX11 7).2.1 (TX11 7).2.2.1) := by decide +kernel
theorem ki_514 : lw_tbl[514]? = some (Cond.fieldLink RX11 70 (TX11 8).1 (TX11 8).2.1 (TX11 8).2.2.1) := by decide +kernel
theorem ki_515 : lw_tbl[515]? = some (Cond.fieldLink RX11 77 (TX11 9).1 (TX11 9).2.1 (TX11 9).2.2.1) := by decide +kernel
theorem ki_516 : lw_tbl[516]? = some (Cond.fieldLink RX11 86 (TX11 10).1 (TX11 10).2.1 (TX11 10).2.2.1) := by decide +kernel
theorem ki_517 : lw_tbl[517]? = some (Cond.fieldLink RX11 93 (TX11 11).1 (TX11 11).2.1 (TX11 11).2.2.1) := by decide +kernel
theorem ki_518 : lw_tbl[518]? = some (Cond.fieldLink RX11 97 (TX11 12).1 (TX11 12).2.1 (TX11 12).2.2.1) := by decide +kernel
theorem ki_519 : lw_tbl[519]? = some (Cond.fieldLink RX11 101 (TX11 13).1 (TX11 13).2.1 (TX11 13).2.2.1) := by decide +kernel
theorem ki_520 : lw_tbl[520]? = some (Cond.fieldLink RX11 105 (TX11 14).1 (TX11 14).2.1 (TX11 14).2.2.1) := by decide +kernel
theorem ki_1475 : lw_tbl[1475]? = some (Cond.methodLink RX12 3 Lib.objectInit) := by decide +kernel
theorem ki_1476 : lw_tbl[1476]? = some (Cond.constant RX12 68 (88200 : Int32)) := by decide +kernel
theorem ki_1478 : lw_tbl[1478]? = some (Cond.fieldLink RX12 9 (TX12 1).1 (TX12 1).2.1 (TX12 1).2.2.1) := by decide +kernel
theorem ki_1483 : lw_tbl[1483]? = some (Cond.fieldLink RX12 13 (TX12 6).1 (TX12 6).2.1 (TX12 6).2.2.1) := by decide +kernel
theorem ki_1484 : lw_tbl[1484]? = some (Cond.fieldLink RX12 16 (TX12 7).1 (TX12 7).2.1 (TX12 7).2.2.1) := by decide +kernel
theorem ki_1485 : lw_tbl[1485]? = some (Cond.fieldLink RX12 19 (TX12 8).1 (TX12 8).2.1 (TX12 8).2.2.1) := by decide +kernel
theorem ki_1486 : lw_tbl[1486]? = some (Cond.fieldLink RX12 22 (TX12 9).1 (TX12 9).2.1 (TX12 9).2.2.1) := by decide +kernel
theorem ki_1487 : lw_tbl[1487]? = some (Cond.fieldLink RX12 25 (TX12 10).1 (TX12 10).2.1 (TX12 10).2.2.1) := by decide +kernel
theorem ki_1488 : lw_tbl[1488]? = some (Cond.fieldLink RX12 28 (TX12 11).1 (TX12 11).2.1 (TX12 11).2.2.1) := by decide +kernel
theorem ki_1489 : lw_tbl[1489]? = some (Cond.fieldLink RX12 31 (TX12 12).1 (TX12 12).2.1 (TX12 12).2.2.1) := by decide +kernel
theorem ki_1492 : lw_tbl[1492]? = some (Cond.fieldLink RX12 34 (TX12 15).1 (TX12 15).2.1 (TX12 15).2.2.1) := by decide +kernel
theorem ki_1493 : lw_tbl[1493]? = some (Cond.fieldLink RX12 37 (TX12 16).1 (TX12 16).2.1 (TX12 16).2.2.1) := by decide +kernel
theorem ki_1494 : lw_tbl[1494]? = some (Cond.fieldLink RX12 40 (TX12 17).1 (TX12 17).2.1 (TX12 17).2.2.1) := by decide +kernel
theorem ki_1495 : lw_tbl[1495]? = some (Cond.fieldLink RX12 43 (TX12 18).1 (TX12 18).2.1 (TX12 18).2.2.1) := by decide +kernel
theorem ki_1496 : lw_tbl[1496]? = some (Cond.fieldLink RX12 46 (TX12 19).1 (TX12 19).2.1 (TX12 19).2.2.1) := by decide +kernel
theorem ki_1499 : lw_tbl[1499]? = some (Cond.fieldLink RX12 49 (TX12 22).1 (TX12 22).2.1 (TX12 22).2.2.1) := by decide +kernel
theorem ki_1500 : lw_tbl[1500]? = some (Cond.fieldLink RX12 52 (TX12 23).1 (TX12 23).2.1 (TX12 23).2.2.1) := by decide +kernel
theorem ki_1501 : lw_tbl[1501]? = some (Cond.fieldLink RX12 55 (TX12 24).1 (TX12 24).2.1 (TX12 24).2.2.1) := by decide +kernel
theorem ki_1504 : lw_tbl[1504]? = some (Cond.fieldLink RX12 58 (TX12 27).1 (TX12 27).2.1 (TX12 27).2.2.1) := by decide +kernel
theorem ki_1505 : lw_tbl[1505]? = some (Cond.fieldLink RX12 61 (TX12 28).1 (TX12 28).2.1 (TX12 28).2.2.1) := by decide +kernel
theorem ki_1506 : lw_tbl[1506]? = some (Cond.fieldLink RX12 65 (TX12 29).1 (TX12 29).2.1 (TX12 29).2.2.1) := by decide +kernel
theorem ki_1509 : lw_tbl[1509]? = some (Cond.fieldLink RX12 69 (TX12 32).1 (TX12 32).2.1 (TX12 32).2.2.1) := by decide +kernel
theorem ki_1510 : lw_tbl[1510]? = some (Cond.fieldLink RX12 72 (TX12 33).1 (TX12 33).2.1 (TX12 33).2.2.1) := by decide +kernel
theorem ki_1514 : lw_tbl[1514]? = some (Cond.fieldLink RX12 75 (TX12 37).1 (TX12 37).2.1 (TX12 37).2.2.1) := by decide +kernel
theorem ki_1515 : lw_tbl[1515]? = some (Cond.fieldLink RX12 78 (TX12 38).1 (TX12 38).2.1 (TX12 38).2.2.1) := by decide +kernel
theorem ki_1517 : lw_tbl[1517]? = some (Cond.fieldLink RX12 81 (TX12 40).1 (TX12 40).2.1 (TX12 40).2.2.1) := by decide +kernel
theorem ki_1518 : lw_tbl[1518]? = some (Cond.fieldLink RX12 84 (TX12 41).1 (TX12 41).2.1 (TX12 41).2.2.1) := by decide +kernel
theorem ki_1519 : lw_tbl[1519]? = some (Cond.fieldLink RX12 88 (TX12 42).1 (TX12 42).2.1 (TX12 42).2.2.1) := by decide +kernel
def KIC_1 : List am_k := [.inl (11, [2, 2, 2, 2, 2, 2, 2, 2, 2, 2, 2, 2, 2, 2, 1])]
def RIC_0 : List (Nat × Nat × Nat) := []
def IIC_0 : List (Nat × Nat × Int32) := []
def KIC_2 : List am_k := [.inl (11, [2, 2, 2, 2, 2, 2, 2, 2, 2, 2, 2, 2, 2, 2, 1]), .inl (8, [2, 0])]
def KIC_3 : List am_k := [.inl (11, [2, 2, 2, 2, 2, 2, 2, 2, 2, 2, 2, 2, 2, 2, 1]), .inl (8, [2, 0]), .inr (0, 240)]
def RIC_1 : List (Nat × Nat × Nat) := [(1, 0, 2)]
def IIC_1 : List (Nat × Nat × Int32) := [(1, 1, 0)]
def KIC_4 : List am_k := [.inl (11, [2, 2, 2, 2, 2, 2, 2, 2, 2, 2, 2, 2, 2, 2, 1]), .inl (8, [2, 0]), .inr (0, 240), .inl (9, [0, 0, 0, 0, 0, 2, 2, 2, 2, 2, 2, 2, 2, 2, 2])]
def RIC_2 : List (Nat × Nat × Nat) := [(0, 0, 1), (1, 0, 2)]
def KIC_14 : List am_k := [.inl (11, [2, 2, 2, 2, 2, 2, 2, 2, 2, 2, 2, 2, 2, 2, 1]), .inl (8, [2, 0]), .inr (0, 240), .inl (9, [0, 0, 0, 0, 0, 2, 2, 2, 2, 2, 2, 2, 2, 2, 2]), .inr (0, 8), .inr (0, 8), .inr (0, 8), .inr (0, 8), .inr (0, 8), .inr (0, 8), .inr (0, 6), .inr (0, 6), .inr (0, 21), .inr (0, 2)]
def RIC_12 : List (Nat × Nat × Nat) := [(3, 14, 13), (3, 13, 12), (3, 12, 11), (3, 11, 10), (3, 10, 9), (3, 9, 8), (3, 8, 7), (3, 7, 6), (3, 6, 5), (3, 5, 4), (0, 0, 1), (1, 0, 2)]
def IIC_6 : List (Nat × Nat × Int32) := [(3, 4, 1), (3, 3, 0), (3, 2, 0), (3, 1, 0), (3, 0, 0), (1, 1, 0)]
def KIC_15 : List am_k := [.inl (11, [2, 2, 2, 2, 2, 2, 2, 2, 2, 2, 2, 2, 2, 2, 1]), .inl (8, [2, 0]), .inr (0, 240), .inl (9, [0, 0, 0, 0, 0, 2, 2, 2, 2, 2, 2, 2, 2, 2, 2]), .inr (0, 8), .inr (0, 8), .inr (0, 8), .inr (0, 8), .inr (0, 8), .inr (0, 8), .inr (0, 6), .inr (0, 6), .inr (0, 21), .inr (0, 2), .inl (9, [0, 0, 0, 0, 0, 2, 2, 2, 2, 2, 2, 2, 2, 2, 2])]
def RIC_13 : List (Nat × Nat × Nat) := [(0, 1, 3), (3, 14, 13), (3, 13, 12), (3, 12, 11), (3, 11, 10), (3, 10, 9), (3, 9, 8), (3, 8, 7), (3, 7, 6), (3, 6, 5), (3, 5, 4), (0, 0, 1), (1, 0, 2)]
def KIC_25 : List am_k := [.inl (11, [2, 2, 2, 2, 2, 2, 2, 2, 2, 2, 2, 2, 2, 2, 1]), .inl (8, [2, 0]), .inr (0, 240), .inl (9, [0, 0, 0, 0, 0, 2, 2, 2, 2, 2, 2, 2, 2, 2, 2]), .inr (0, 8), .inr (0, 8), .inr (0, 8), .inr (0, 8), .inr (0, 8), .inr (0, 8), .inr (0, 6), .inr (0, 6), .inr (0, 21), .inr (0, 2), .inl (9, [0, 0, 0, 0, 0, 2, 2, 2, 2, 2, 2, 2, 2, 2, 2]), .inr (0, 8), .inr (0, 8), .inr (0, 8), .inr (0, 8), .inr (0, 8), .inr (0, 8), .inr (0, 6), .inr (0, 6), .inr (0, 21), .inr (0, 2)]
def RIC_23 : List (Nat × Nat × Nat) := [(14, 14, 24), (14, 13, 23), (14, 12, 22), (14, 11, 21), (14, 10, 20), (14, 9, 19), (14, 8, 18), (14, 7, 17), (14, 6, 16), (14, 5, 15), (0, 1, 3), (3, 14, 13), (3, 13, 12), (3, 12, 11), (3, 11, 10), (3, 10, 9), (3, 9, 8), (3, 8, 7), (3, 7, 6), (3, 6, 5), (3, 5, 4), (0, 0, 1), (1, 0, 2)]
def IIC_11 : List (Nat × Nat × Int32) := [(14, 4, 1), (14, 3, 0), (14, 2, 0), (14, 1, 0), (14, 0, 0), (3, 4, 1), (3, 3, 0), (3, 2, 0), (3, 1, 0), (3, 0, 0), (1, 1, 0)]
def KIC_26 : List am_k := [.inl (11, [2, 2, 2, 2, 2, 2, 2, 2, 2, 2, 2, 2, 2, 2, 1]), .inl (8, [2, 0]), .inr (0, 240), .inl (9, [0, 0, 0, 0, 0, 2, 2, 2, 2, 2, 2, 2, 2, 2, 2]), .inr (0, 8), .inr (0, 8), .inr (0, 8), .inr (0, 8), .inr (0, 8), .inr (0, 8), .inr (0, 6), .inr (0, 6), .inr (0, 21), .inr (0, 2), .inl (9, [0, 0, 0, 0, 0, 2, 2, 2, 2, 2, 2, 2, 2, 2, 2]), .inr (0, 8), .inr (0, 8), .inr (0, 8), .inr (0, 8), .inr (0, 8), .inr (0, 8), .inr (0, 6), .inr (0, 6), .inr (0, 21), .inr (0, 2), .inl (10, [2, 2, 2, 0, 0, 0])]
def RIC_24 : List (Nat × Nat × Nat) := [(0, 2, 14), (14, 14, 24), (14, 13, 23), (14, 12, 22), (14, 11, 21), (14, 10, 20), (14, 9, 19), (14, 8, 18), (14, 7, 17), (14, 6, 16), (14, 5, 15), (0, 1, 3), (3, 14, 13), (3, 13, 12), (3, 12, 11), (3, 11, 10), (3, 10, 9), (3, 9, 8), (3, 8, 7), (3, 7, 6), (3, 6, 5), (3, 5, 4), (0, 0, 1), (1, 0, 2)]
def KIC_27 : List am_k := [.inl (11, [2, 2, 2, 2, 2, 2, 2, 2, 2, 2, 2, 2, 2, 2, 1]), .inl (8, [2, 0]), .inr (0, 240), .inl (9, [0, 0, 0, 0, 0, 2, 2, 2, 2, 2, 2, 2, 2, 2, 2]), .inr (0, 8), .inr (0, 8), .inr (0, 8), .inr (0, 8), .inr (0, 8), .inr (0, 8), .inr (0, 6), .inr (0, 6), .inr (0, 21), .inr (0, 2), .inl (9, [0, 0, 0, 0, 0, 2, 2, 2, 2, 2, 2, 2, 2, 2, 2]), .inr (0, 8), .inr (0, 8), .inr (0, 8), .inr (0, 8), .inr (0, 8), .inr (0, 8), .inr (0, 6), .inr (0, 6), .inr (0, 21), .inr (0, 2), .inl (10, [2, 2, 2, 0, 0, 0]), .inr (0, 10)]
def RIC_27 : List (Nat × Nat × Nat) := [(25, 1, 14), (25, 0, 1), (25, 2, 26), (0, 2, 14), (14, 14, 24), (14, 13, 23), (14, 12, 22), (14, 11, 21), (14, 10, 20), (14, 9, 19), (14, 8, 18), (14, 7, 17), (14, 6, 16), (14, 5, 15), (0, 1, 3), (3, 14, 13), (3, 13, 12), (3, 12, 11), (3, 11, 10), (3, 10, 9), (3, 9, 8), (3, 8, 7), (3, 7, 6), (3, 6, 5), (3, 5, 4), (0, 0, 1), (1, 0, 2)]
def IIC_14 : List (Nat × Nat × Int32) := [(25, 5, 0), (25, 4, 0), (25, 3, 0), (14, 4, 1), (14, 3, 0), (14, 2, 0), (14, 1, 0), (14, 0, 0), (3, 4, 1), (3, 3, 0), (3, 2, 0), (3, 1, 0), (3, 0, 0), (1, 1, 0)]
def KIC_28 : List am_k := [.inl (11, [2, 2, 2, 2, 2, 2, 2, 2, 2, 2, 2, 2, 2, 2, 1]), .inl (8, [2, 0]), .inr (0, 240), .inl (9, [0, 0, 0, 0, 0, 2, 2, 2, 2, 2, 2, 2, 2, 2, 2]), .inr (0, 8), .inr (0, 8), .inr (0, 8), .inr (0, 8), .inr (0, 8), .inr (0, 8), .inr (0, 6), .inr (0, 6), .inr (0, 21), .inr (0, 2), .inl (9, [0, 0, 0, 0, 0, 2, 2, 2, 2, 2, 2, 2, 2, 2, 2]), .inr (0, 8), .inr (0, 8), .inr (0, 8), .inr (0, 8), .inr (0, 8), .inr (0, 8), .inr (0, 6), .inr (0, 6), .inr (0, 21), .inr (0, 2), .inl (10, [2, 2, 2, 0, 0, 0]), .inr (0, 10), .inl (2, [2, 2, 0, 0])]
def RIC_28 : List (Nat × Nat × Nat) := [(0, 3, 25), (25, 1, 14), (25, 0, 1), (25, 2, 26), (0, 2, 14), (14, 14, 24), (14, 13, 23), (14, 12, 22), (14, 11, 21), (14, 10, 20), (14, 9, 19), (14, 8, 18), (14, 7, 17), (14, 6, 16), (14, 5, 15), (0, 1, 3), (3, 14, 13), (3, 13, 12), (3, 12, 11), (3, 11, 10), (3, 10, 9), (3, 9, 8), (3, 8, 7), (3, 7, 6), (3, 6, 5), (3, 5, 4), (0, 0, 1), (1, 0, 2)]
def KIC_29 : List am_k := [.inl (11, [2, 2, 2, 2, 2, 2, 2, 2, 2, 2, 2, 2, 2, 2, 1]), .inl (8, [2, 0]), .inr (0, 240), .inl (9, [0, 0, 0, 0, 0, 2, 2, 2, 2, 2, 2, 2, 2, 2, 2]), .inr (0, 8), .inr (0, 8), .inr (0, 8), .inr (0, 8), .inr (0, 8), .inr (0, 8), .inr (0, 6), .inr (0, 6), .inr (0, 21), .inr (0, 2), .inl (9, [0, 0, 0, 0, 0, 2, 2, 2, 2, 2, 2, 2, 2, 2, 2]), .inr (0, 8), .inr (0, 8), .inr (0, 8), .inr (0, 8), .inr (0, 8), .inr (0, 8), .inr (0, 6), .inr (0, 6), .inr (0, 21), .inr (0, 2), .inl (10, [2, 2, 2, 0, 0, 0]), .inr (0, 10), .inl (2, [2, 2, 0, 0]), .inr (0, 240)]
def RIC_30 : List (Nat × Nat × Nat) := [(27, 0, 1), (27, 1, 28), (0, 3, 25), (25, 1, 14), (25, 0, 1), (25, 2, 26), (0, 2, 14), (14, 14, 24), (14, 13, 23), (14, 12, 22), (14, 11, 21), (14, 10, 20), (14, 9, 19), (14, 8, 18), (14, 7, 17), (14, 6, 16), (14, 5, 15), (0, 1, 3), (3, 14, 13), (3, 13, 12), (3, 12, 11), (3, 11, 10), (3, 10, 9), (3, 9, 8), (3, 8, 7), (3, 7, 6), (3, 6, 5), (3, 5, 4), (0, 0, 1), (1, 0, 2)]
def IIC_16 : List (Nat × Nat × Int32) := [(27, 3, 0), (27, 2, 0), (25, 5, 0), (25, 4, 0), (25, 3, 0), (14, 4, 1), (14, 3, 0), (14, 2, 0), (14, 1, 0), (14, 0, 0), (3, 4, 1), (3, 3, 0), (3, 2, 0), (3, 1, 0), (3, 0, 0), (1, 1, 0)]
def KIC_30 : List am_k := [.inl (11, [2, 2, 2, 2, 2, 2, 2, 2, 2, 2, 2, 2, 2, 2, 1]), .inl (8, [2, 0]), .inr (0, 240), .inl (9, [0, 0, 0, 0, 0, 2, 2, 2, 2, 2, 2, 2, 2, 2, 2]), .inr (0, 8), .inr (0, 8), .inr (0, 8), .inr (0, 8), .inr (0, 8), .inr (0, 8), .inr (0, 6), .inr (0, 6), .inr (0, 21), .inr (0, 2), .inl (9, [0, 0, 0, 0, 0, 2, 2, 2, 2, 2, 2, 2, 2, 2, 2]), .inr (0, 8), .inr (0, 8), .inr (0, 8), .inr (0, 8), .inr (0, 8), .inr (0, 8), .inr (0, 6), .inr (0, 6), .inr (0, 21), .inr (0, 2), .inl (10, [2, 2, 2, 0, 0, 0]), .inr (0, 10), .inl (2, [2, 2, 0, 0]), .inr (0, 240), .inl (3, [2, 2, 2, 2, 2, 0, 0])]
def RIC_31 : List (Nat × Nat × Nat) := [(0, 4, 27), (27, 0, 1), (27, 1, 28), (0, 3, 25), (25, 1, 14), (25, 0, 1), (25, 2, 26), (0, 2, 14), (14, 14, 24), (14, 13, 23), (14, 12, 22), (14, 11, 21), (14, 10, 20), (14, 9, 19), (14, 8, 18), (14, 7, 17), (14, 6, 16), (14, 5, 15), (0, 1, 3), (3, 14, 13), (3, 13, 12), (3, 12, 11), (3, 11, 10), (3, 10, 9), (3, 9, 8), (3, 8, 7), (3, 7, 6), (3, 6, 5), (3, 5, 4), (0, 0, 1), (1, 0, 2)]
def KIC_39 : List am_k := [.inl (11, [2, 2, 2, 2, 2, 2, 2, 2, 2, 2, 2, 2, 2, 2, 1]), .inl (8, [2, 0]), .inr (0, 240), .inl (9, [0, 0, 0, 0, 0, 2, 2, 2, 2, 2, 2, 2, 2, 2, 2]), .inr (0, 8), .inr (0, 8), .inr (0, 8), .inr (0, 8), .inr (0, 8), .inr (0, 8), .inr (0, 6), .inr (0, 6), .inr (0, 21), .inr (0, 2), .inl (9, [0, 0, 0, 0, 0, 2, 2, 2, 2, 2, 2, 2, 2, 2, 2]), .inr (0, 8), .inr (0, 8), .inr (0, 8), .inr (0, 8), .inr (0, 8), .inr (0, 8), .inr (0, 6), .inr (0, 6), .inr (0, 21), .inr (0, 2), .inl (10, [2, 2, 2, 0, 0, 0]), .inr (0, 10), .inl (2, [2, 2, 0, 0]), .inr (0, 240), .inl (3, [2, 2, 2, 2, 2, 0, 0]), .inr (2, 4), .inr (0, 240), .inr (0, 240), .inr (0, 240), .inr (0, 240), .inr (0, 4), .inr (0, 32), .inr (0, 6), .inr (0, 4)]
def RIC_40 : List (Nat × Nat × Nat) := [(29, 4, 38), (29, 3, 37), (29, 2, 36), (29, 1, 35), (29, 0, 30), (30, 3, 34), (30, 2, 33), (30, 1, 32), (30, 0, 31), (0, 4, 27), (27, 0, 1), (27, 1, 28), (0, 3, 25), (25, 1, 14), (25, 0, 1), (25, 2, 26), (0, 2, 14), (14, 14, 24), (14, 13, 23), (14, 12, 22), (14, 11, 21), (14, 10, 20), (14, 9, 19), (14, 8, 18), (14, 7, 17), (14, 6, 16), (14, 5, 15), (0, 1, 3), (3, 14, 13), (3, 13, 12), (3, 12, 11), (3, 11, 10), (3, 10, 9), (3, 9, 8), (3, 8, 7), (3, 7, 6), (3, 6, 5), (3, 5, 4), (0, 0, 1), (1, 0, 2)]
def IIC_18 : List (Nat × Nat × Int32) := [(29, 6, -1), (29, 5, 0), (27, 3, 0), (27, 2, 0), (25, 5, 0), (25, 4, 0), (25, 3, 0), (14, 4, 1), (14, 3, 0), (14, 2, 0), (14, 1, 0), (14, 0, 0), (3, 4, 1), (3, 3, 0), (3, 2, 0), (3, 1, 0), (3, 0, 0), (1, 1, 0)]
def KIC_40 : List am_k := [.inl (11, [2, 2, 2, 2, 2, 2, 2, 2, 2, 2, 2, 2, 2, 2, 1]), .inl (8, [2, 0]), .inr (0, 240), .inl (9, [0, 0, 0, 0, 0, 2, 2, 2, 2, 2, 2, 2, 2, 2, 2]), .inr (0, 8), .inr (0, 8), .inr (0, 8), .inr (0, 8), .inr (0, 8), .inr (0, 8), .inr (0, 6), .inr (0, 6), .inr (0, 21), .inr (0, 2), .inl (9, [0, 0, 0, 0, 0, 2, 2, 2, 2, 2, 2, 2, 2, 2, 2]), .inr (0, 8), .inr (0, 8), .inr (0, 8), .inr (0, 8), .inr (0, 8), .inr (0, 8), .inr (0, 6), .inr (0, 6), .inr (0, 21), .inr (0, 2), .inl (10, [2, 2, 2, 0, 0, 0]), .inr (0, 10), .inl (2, [2, 2, 0, 0]), .inr (0, 240), .inl (3, [2, 2, 2, 2, 2, 0, 0]), .inr (2, 4), .inr (0, 240), .inr (0, 240), .inr (0, 240), .inr (0, 240), .inr (0, 4), .inr (0, 32), .inr (0, 6), .inr (0, 4), .inl (7, [2, 2, 2, 2, 0, 0, 0])]
def RIC_41 : List (Nat × Nat × Nat) := [(0, 5, 29), (29, 4, 38), (29, 3, 37), (29, 2, 36), (29, 1, 35), (29, 0, 30), (30, 3, 34), (30, 2, 33), (30, 1, 32), (30, 0, 31), (0, 4, 27), (27, 0, 1), (27, 1, 28), (0, 3, 25), (25, 1, 14), (25, 0, 1), (25, 2, 26), (0, 2, 14), (14, 14, 24), (14, 13, 23), (14, 12, 22), (14, 11, 21), (14, 10, 20), (14, 9, 19), (14, 8, 18), (14, 7, 17), (14, 6, 16), (14, 5, 15), (0, 1, 3), (3, 14, 13), (3, 13, 12), (3, 12, 11), (3, 11, 10), (3, 10, 9), (3, 9, 8), (3, 8, 7), (3, 7, 6), (3, 6, 5), (3, 5, 4), (0, 0, 1), (1, 0, 2)]
def KIC_42 : List am_k := [.inl (11, [2, 2, 2, 2, 2, 2, 2, 2, 2, 2, 2, 2, 2, 2, 1]), .inl (8, [2, 0]), .inr (0, 240), .inl (9, [0, 0, 0, 0, 0, 2, 2, 2, 2, 2, 2, 2, 2, 2, 2]), .inr (0, 8), .inr (0, 8), .inr (0, 8), .inr (0, 8), .inr (0, 8), .inr (0, 8), .inr (0, 6), .inr (0, 6), .inr (0, 21), .inr (0, 2), .inl (9, [0, 0, 0, 0, 0, 2, 2, 2, 2, 2, 2, 2, 2, 2, 2]), .inr (0, 8), .inr (0, 8), .inr (0, 8), .inr (0, 8), .inr (0, 8), .inr (0, 8), .inr (0, 6), .inr (0, 6), .inr (0, 21), .inr (0, 2), .inl (10, [2, 2, 2, 0, 0, 0]), .inr (0, 10), .inl (2, [2, 2, 0, 0]), .inr (0, 240), .inl (3, [2, 2, 2, 2, 2, 0, 0]), .inr (2, 4), .inr (0, 240), .inr (0, 240), .inr (0, 240), .inr (0, 240), .inr (0, 4), .inr (0, 32), .inr (0, 6), .inr (0, 4), .inl (7, [2, 2, 2, 2, 0, 0, 0]), .inr (0, 8), .inr (0, 8)]
def RIC_45 : List (Nat × Nat × Nat) := [(39, 1, 29), (39, 0, 3), (39, 3, 41), (39, 2, 40), (0, 5, 29), (29, 4, 38), (29, 3, 37), (29, 2, 36), (29, 1, 35), (29, 0, 30), (30, 3, 34), (30, 2, 33), (30, 1, 32), (30, 0, 31), (0, 4, 27), (27, 0, 1), (27, 1, 28), (0, 3, 25), (25, 1, 14), (25, 0, 1), (25, 2, 26), (0, 2, 14), (14, 14, 24), (14, 13, 23), (14, 12, 22), (14, 11, 21), (14, 10, 20), (14, 9, 19), (14, 8, 18), (14, 7, 17), (14, 6, 16), (14, 5, 15), (0, 1, 3), (3, 14, 13), (3, 13, 12), (3, 12, 11), (3, 11, 10), (3, 10, 9), (3, 9, 8), (3, 8, 7), (3, 7, 6), (3, 6, 5), (3, 5, 4), (0, 0, 1), (1, 0, 2)]
def IIC_21 : List (Nat × Nat × Int32) := [(39, 6, 0), (39, 5, 0), (39, 4, 0), (29, 6, -1), (29, 5, 0), (27, 3, 0), (27, 2, 0), (25, 5, 0), (25, 4, 0), (25, 3, 0), (14, 4, 1), (14, 3, 0), (14, 2, 0), (14, 1, 0), (14, 0, 0), (3, 4, 1), (3, 3, 0), (3, 2, 0), (3, 1, 0), (3, 0, 0), (1, 1, 0)]
def KIC_43 : List am_k := [.inl (11, [2, 2, 2, 2, 2, 2, 2, 2, 2, 2, 2, 2, 2, 2, 1]), .inl (8, [2, 0]), .inr (0, 240), .inl (9, [0, 0, 0, 0, 0, 2, 2, 2, 2, 2, 2, 2, 2, 2, 2]), .inr (0, 8), .inr (0, 8), .inr (0, 8), .inr (0, 8), .inr (0, 8), .inr (0, 8), .inr (0, 6), .inr (0, 6), .inr (0, 21), .inr (0, 2), .inl (9, [0, 0, 0, 0, 0, 2, 2, 2, 2, 2, 2, 2, 2, 2, 2]), .inr (0, 8), .inr (0, 8), .inr (0, 8), .inr (0, 8), .inr (0, 8), .inr (0, 8), .inr (0, 6), .inr (0, 6), .inr (0, 21), .inr (0, 2), .inl (10, [2, 2, 2, 0, 0, 0]), .inr (0, 10), .inl (2, [2, 2, 0, 0]), .inr (0, 240), .inl (3, [2, 2, 2, 2, 2, 0, 0]), .inr (2, 4), .inr (0, 240), .inr (0, 240), .inr (0, 240), .inr (0, 240), .inr (0, 4), .inr (0, 32), .inr (0, 6), .inr (0, 4), .inl (7, [2, 2, 2, 2, 0, 0, 0]), .inr (0, 8), .inr (0, 8), .inl (5, [2, 2, 0, 0])]
def RIC_46 : List (Nat × Nat × Nat) := [(0, 6, 39), (39, 1, 29), (39, 0, 3), (39, 3, 41), (39, 2, 40), (0, 5, 29), (29, 4, 38), (29, 3, 37), (29, 2, 36), (29, 1, 35), (29, 0, 30), (30, 3, 34), (30, 2, 33), (30, 1, 32), (30, 0, 31), (0, 4, 27), (27, 0, 1), (27, 1, 28), (0, 3, 25), (25, 1, 14), (25, 0, 1), (25, 2, 26), (0, 2, 14), (14, 14, 24), (14, 13, 23), (14, 12, 22), (14, 11, 21), (14, 10, 20), (14, 9, 19), (14, 8, 18), (14, 7, 17), (14, 6, 16), (14, 5, 15), (0, 1, 3), (3, 14, 13), (3, 13, 12), (3, 12, 11), (3, 11, 10), (3, 10, 9), (3, 9, 8), (3, 8, 7), (3, 7, 6), (3, 6, 5), (3, 5, 4), (0, 0, 1), (1, 0, 2)]
def KIC_45 : List am_k := [.inl (11, [2, 2, 2, 2, 2, 2, 2, 2, 2, 2, 2, 2, 2, 2, 1]), .inl (8, [2, 0]), .inr (0, 240), .inl (9, [0, 0, 0, 0, 0, 2, 2, 2, 2, 2, 2, 2, 2, 2, 2]), .inr (0, 8), .inr (0, 8), .inr (0, 8), .inr (0, 8), .inr (0, 8), .inr (0, 8), .inr (0, 6), .inr (0, 6), .inr (0, 21), .inr (0, 2), .inl (9, [0, 0, 0, 0, 0, 2, 2, 2, 2, 2, 2, 2, 2, 2, 2]), .inr (0, 8), .inr (0, 8), .inr (0, 8), .inr (0, 8), .inr (0, 8), .inr (0, 8), .inr (0, 6), .inr (0, 6), .inr (0, 21), .inr (0, 2), .inl (10, [2, 2, 2, 0, 0, 0]), .inr (0, 10), .inl (2, [2, 2, 0, 0]), .inr (0, 240), .inl (3, [2, 2, 2, 2, 2, 0, 0]), .inr (2, 4), .inr (0, 240), .inr (0, 240), .inr (0, 240), .inr (0, 240), .inr (0, 4), .inr (0, 32), .inr (0, 6), .inr (0, 4), .inl (7, [2, 2, 2, 2, 0, 0, 0]), .inr (0, 8), .inr (0, 8), .inl (5, [2, 2, 0, 0]), .inr (0, 420), .inr (0, 60)]
def RIC_48 : List (Nat × Nat × Nat) := [(42, 1, 44), (42, 0, 43), (0, 6, 39), (39, 1, 29), (39, 0, 3), (39, 3, 41), (39, 2, 40), (0, 5, 29), (29, 4, 38), (29, 3, 37), (29, 2, 36), (29, 1, 35), (29, 0, 30), (30, 3, 34), (30, 2, 33), (30, 1, 32), (30, 0, 31), (0, 4, 27), (27, 0, 1), (27, 1, 28), (0, 3, 25), (25, 1, 14), (25, 0, 1), (25, 2, 26), (0, 2, 14), (14, 14, 24), (14, 13, 23), (14, 12, 22), (14, 11, 21), (14, 10, 20), (14, 9, 19), (14, 8, 18), (14, 7, 17), (14, 6, 16), (14, 5, 15), (0, 1, 3), (3, 14, 13), (3, 13, 12), (3, 12, 11), (3, 11, 10), (3, 10, 9), (3, 9, 8), (3, 8, 7), (3, 7, 6), (3, 6, 5), (3, 5, 4), (0, 0, 1), (1, 0, 2)]
def IIC_23 : List (Nat × Nat × Int32) := [(42, 3, 0), (42, 2, 0), (39, 6, 0), (39, 5, 0), (39, 4, 0), (29, 6, -1), (29, 5, 0), (27, 3, 0), (27, 2, 0), (25, 5, 0), (25, 4, 0), (25, 3, 0), (14, 4, 1), (14, 3, 0), (14, 2, 0), (14, 1, 0), (14, 0, 0), (3, 4, 1), (3, 3, 0), (3, 2, 0), (3, 1, 0), (3, 0, 0), (1, 1, 0)]
def KIC_46 : List am_k := [.inl (11, [2, 2, 2, 2, 2, 2, 2, 2, 2, 2, 2, 2, 2, 2, 1]), .inl (8, [2, 0]), .inr (0, 240), .inl (9, [0, 0, 0, 0, 0, 2, 2, 2, 2, 2, 2, 2, 2, 2, 2]), .inr (0, 8), .inr (0, 8), .inr (0, 8), .inr (0, 8), .inr (0, 8), .inr (0, 8), .inr (0, 6), .inr (0, 6), .inr (0, 21), .inr (0, 2), .inl (9, [0, 0, 0, 0, 0, 2, 2, 2, 2, 2, 2, 2, 2, 2, 2]), .inr (0, 8), .inr (0, 8), .inr (0, 8), .inr (0, 8), .inr (0, 8), .inr (0, 8), .inr (0, 6), .inr (0, 6), .inr (0, 21), .inr (0, 2), .inl (10, [2, 2, 2, 0, 0, 0]), .inr (0, 10), .inl (2, [2, 2, 0, 0]), .inr (0, 240), .inl (3, [2, 2, 2, 2, 2, 0, 0]), .inr (2, 4), .inr (0, 240), .inr (0, 240), .inr (0, 240), .inr (0, 240), .inr (0, 4), .inr (0, 32), .inr (0, 6), .inr (0, 4), .inl (7, [2, 2, 2, 2, 0, 0, 0]), .inr (0, 8), .inr (0, 8), .inl (5, [2, 2, 0, 0]), .inr (0, 420), .inr (0, 60), .inl (6, [2, 2, 2, 2, 2, 0, 0, 0])]
def RIC_49 : List (Nat × Nat × Nat) := [(0, 7, 42), (42, 1, 44), (42, 0, 43), (0, 6, 39), (39, 1, 29), (39, 0, 3), (39, 3, 41), (39, 2, 40), (0, 5, 29), (29, 4, 38), (29, 3, 37), (29, 2, 36), (29, 1, 35), (29, 0, 30), (30, 3, 34), (30, 2, 33), (30, 1, 32), (30, 0, 31), (0, 4, 27), (27, 0, 1), (27, 1, 28), (0, 3, 25), (25, 1, 14), (25, 0, 1), (25, 2, 26), (0, 2, 14), (14, 14, 24), (14, 13, 23), (14, 12, 22), (14, 11, 21), (14, 10, 20), (14, 9, 19), (14, 8, 18), (14, 7, 17), (14, 6, 16), (14, 5, 15), (0, 1, 3), (3, 14, 13), (3, 13, 12), (3, 12, 11), (3, 11, 10), (3, 10, 9), (3, 9, 8), (3, 8, 7), (3, 7, 6), (3, 6, 5), (3, 5, 4), (0, 0, 1), (1, 0, 2)]
def KIC_51 : List am_k := [.inl (11, [2, 2, 2, 2, 2, 2, 2, 2, 2, 2, 2, 2, 2, 2, 1]), .inl (8, [2, 0]), .inr (0, 240), .inl (9, [0, 0, 0, 0, 0, 2, 2, 2, 2, 2, 2, 2, 2, 2, 2]), .inr (0, 8), .inr (0, 8), .inr (0, 8), .inr (0, 8), .inr (0, 8), .inr (0, 8), .inr (0, 6), .inr (0, 6), .inr (0, 21), .inr (0, 2), .inl (9, [0, 0, 0, 0, 0, 2, 2, 2, 2, 2, 2, 2, 2, 2, 2]), .inr (0, 8), .inr (0, 8), .inr (0, 8), .inr (0, 8), .inr (0, 8), .inr (0, 8), .inr (0, 6), .inr (0, 6), .inr (0, 21), .inr (0, 2), .inl (10, [2, 2, 2, 0, 0, 0]), .inr (0, 10), .inl (2, [2, 2, 0, 0]), .inr (0, 240), .inl (3, [2, 2, 2, 2, 2, 0, 0]), .inr (2, 4), .inr (0, 240), .inr (0, 240), .inr (0, 240), .inr (0, 240), .inr (0, 4), .inr (0, 32), .inr (0, 6), .inr (0, 4), .inl (7, [2, 2, 2, 2, 0, 0, 0]), .inr (0, 8), .inr (0, 8), .inl (5, [2, 2, 0, 0]), .inr (0, 420), .inr (0, 60), .inl (6, [2, 2, 2, 2, 2, 0, 0, 0]), .inr (1, 41), .inr (1, 41), .inr (0, 41), .inr (0, 41), .inr (0, 40)]
def RIC_54 : List (Nat × Nat × Nat) := [(45, 4, 50), (45, 3, 49), (45, 2, 48), (45, 1, 47), (45, 0, 46), (0, 7, 42), (42, 1, 44), (42, 0, 43), (0, 6, 39), (39, 1, 29), (39, 0, 3), (39, 3, 41), (39, 2, 40), (0, 5, 29), (29, 4, 38), (29, 3, 37), (29, 2, 36), (29, 1, 35), (29, 0, 30), (30, 3, 34), (30, 2, 33), (30, 1, 32), (30, 0, 31), (0, 4, 27), (27, 0, 1), (27, 1, 28), (0, 3, 25), (25, 1, 14), (25, 0, 1), (25, 2, 26), (0, 2, 14), (14, 14, 24), (14, 13, 23), (14, 12, 22), (14, 11, 21), (14, 10, 20), (14, 9, 19), (14, 8, 18), (14, 7, 17), (14, 6, 16), (14, 5, 15), (0, 1, 3), (3, 14, 13), (3, 13, 12), (3, 12, 11), (3, 11, 10), (3, 10, 9), (3, 9, 8), (3, 8, 7), (3, 7, 6), (3, 6, 5), (3, 5, 4), (0, 0, 1), (1, 0, 2)]
def IIC_26 : List (Nat × Nat × Int32) := [(45, 7, 0), (45, 6, 0), (45, 5, 0), (42, 3, 0), (42, 2, 0), (39, 6, 0), (39, 5, 0), (39, 4, 0), (29, 6, -1), (29, 5, 0), (27, 3, 0), (27, 2, 0), (25, 5, 0), (25, 4, 0), (25, 3, 0), (14, 4, 1), (14, 3, 0), (14, 2, 0), (14, 1, 0), (14, 0, 0), (3, 4, 1), (3, 3, 0), (3, 2, 0), (3, 1, 0), (3, 0, 0), (1, 1, 0)]
def KIC_52 : List am_k := [.inl (11, [2, 2, 2, 2, 2, 2, 2, 2, 2, 2, 2, 2, 2, 2, 1]), .inl (8, [2, 0]), .inr (0, 240), .inl (9, [0, 0, 0, 0, 0, 2, 2, 2, 2, 2, 2, 2, 2, 2, 2]), .inr (0, 8), .inr (0, 8), .inr (0, 8), .inr (0, 8), .inr (0, 8), .inr (0, 8), .inr (0, 6), .inr (0, 6), .inr (0, 21), .inr (0, 2), .inl (9, [0, 0, 0, 0, 0, 2, 2, 2, 2, 2, 2, 2, 2, 2, 2]), .inr (0, 8), .inr (0, 8), .inr (0, 8), .inr (0, 8), .inr (0, 8), .inr (0, 8), .inr (0, 6), .inr (0, 6), .inr (0, 21), .inr (0, 2), .inl (10, [2, 2, 2, 0, 0, 0]), .inr (0, 10), .inl (2, [2, 2, 0, 0]), .inr (0, 240), .inl (3, [2, 2, 2, 2, 2, 0, 0]), .inr (2, 4), .inr (0, 240), .inr (0, 240), .inr (0, 240), .inr (0, 240), .inr (0, 4), .inr (0, 32), .inr (0, 6), .inr (0, 4), .inl (7, [2, 2, 2, 2, 0, 0, 0]), .inr (0, 8), .inr (0, 8), .inl (5, [2, 2, 0, 0]), .inr (0, 420), .inr (0, 60), .inl (6, [2, 2, 2, 2, 2, 0, 0, 0]), .inr (1, 41), .inr (1, 41), .inr (0, 41), .inr (0, 41), .inr (0, 40), .inl (0, [2, 2, 2, 2, 2, 2, 2, 2, 0, 0, 0, 0])]
def RIC_55 : List (Nat × Nat × Nat) := [(0, 8, 45), (45, 4, 50), (45, 3, 49), (45, 2, 48), (45, 1, 47), (45, 0, 46), (0, 7, 42), (42, 1, 44), (42, 0, 43), (0, 6, 39), (39, 1, 29), (39, 0, 3), (39, 3, 41), (39, 2, 40), (0, 5, 29), (29, 4, 38), (29, 3, 37), (29, 2, 36), (29, 1, 35), (29, 0, 30), (30, 3, 34), (30, 2, 33), (30, 1, 32), (30, 0, 31), (0, 4, 27), (27, 0, 1), (27, 1, 28), (0, 3, 25), (25, 1, 14), (25, 0, 1), (25, 2, 26), (0, 2, 14), (14, 14, 24), (14, 13, 23), (14, 12, 22), (14, 11, 21), (14, 10, 20), (14, 9, 19), (14, 8, 18), (14, 7, 17), (14, 6, 16), (14, 5, 15), (0, 1, 3), (3, 14, 13), (3, 13, 12), (3, 12, 11), (3, 11, 10), (3, 10, 9), (3, 9, 8), (3, 8, 7), (3, 7, 6), (3, 6, 5), (3, 5, 4), (0, 0, 1), (1, 0, 2)]
def KIC_58 : List am_k := [.inl (11, [2, 2, 2, 2, 2, 2, 2, 2, 2, 2, 2, 2, 2, 2, 1]), .inl (8, [2, 0]), .inr (0, 240), .inl (9, [0, 0, 0, 0, 0, 2, 2, 2, 2, 2, 2, 2, 2, 2, 2]), .inr (0, 8), .inr (0, 8), .inr (0, 8), .inr (0, 8), .inr (0, 8), .inr (0, 8), .inr (0, 6), .inr (0, 6), .inr (0, 21), .inr (0, 2), .inl (9, [0, 0, 0, 0, 0, 2, 2, 2, 2, 2, 2, 2, 2, 2, 2]), .inr (0, 8), .inr (0, 8), .inr (0, 8), .inr (0, 8), .inr (0, 8), .inr (0, 8), .inr (0, 6), .inr (0, 6), .inr (0, 21), .inr (0, 2), .inl (10, [2, 2, 2, 0, 0, 0]), .inr (0, 10), .inl (2, [2, 2, 0, 0]), .inr (0, 240), .inl (3, [2, 2, 2, 2, 2, 0, 0]), .inr (2, 4), .inr (0, 240), .inr (0, 240), .inr (0, 240), .inr (0, 240), .inr (0, 4), .inr (0, 32), .inr (0, 6), .inr (0, 4), .inl (7, [2, 2, 2, 2, 0, 0, 0]), .inr (0, 8), .inr (0, 8), .inl (5, [2, 2, 0, 0]), .inr (0, 420), .inr (0, 60), .inl (6, [2, 2, 2, 2, 2, 0, 0, 0]), .inr (1, 41), .inr (1, 41), .inr (0, 41), .inr (0, 41), .inr (0, 40), .inl (0, [2, 2, 2, 2, 2, 2, 2, 2, 0, 0, 0, 0]), .inr (0, 21), .inr (0, 21), .inr (0, 75), .inr (0, 75), .inr (0, 75), .inr (0, 75)]
def RIC_61 : List (Nat × Nat × Nat) := [(51, 5, 57), (51, 4, 56), (51, 3, 55), (51, 2, 54), (51, 1, 53), (51, 0, 52), (0, 8, 45), (45, 4, 50), (45, 3, 49), (45, 2, 48), (45, 1, 47), (45, 0, 46), (0, 7, 42), (42, 1, 44), (42, 0, 43), (0, 6, 39), (39, 1, 29), (39, 0, 3), (39, 3, 41), (39, 2, 40), (0, 5, 29), (29, 4, 38), (29, 3, 37), (29, 2, 36), (29, 1, 35), (29, 0, 30), (30, 3, 34), (30, 2, 33), (30, 1, 32), (30, 0, 31), (0, 4, 27), (27, 0, 1), (27, 1, 28), (0, 3, 25), (25, 1, 14), (25, 0, 1), (25, 2, 26), (0, 2, 14), (14, 14, 24), (14, 13, 23), (14, 12, 22), (14, 11, 21), (14, 10, 20), (14, 9, 19), (14, 8, 18), (14, 7, 17), (14, 6, 16), (14, 5, 15), (0, 1, 3), (3, 14, 13), (3, 13, 12), (3, 12, 11), (3, 11, 10), (3, 10, 9), (3, 9, 8), (3, 8, 7), (3, 7, 6), (3, 6, 5), (3, 5, 4), (0, 0, 1), (1, 0, 2)]
def IIC_30 : List (Nat × Nat × Int32) := [(51, 11, 0), (51, 10, 0), (51, 9, 0), (51, 8, 0), (45, 7, 0), (45, 6, 0), (45, 5, 0), (42, 3, 0), (42, 2, 0), (39, 6, 0), (39, 5, 0), (39, 4, 0), (29, 6, -1), (29, 5, 0), (27, 3, 0), (27, 2, 0), (25, 5, 0), (25, 4, 0), (25, 3, 0), (14, 4, 1), (14, 3, 0), (14, 2, 0), (14, 1, 0), (14, 0, 0), (3, 4, 1), (3, 3, 0), (3, 2, 0), (3, 1, 0), (3, 0, 0), (1, 1, 0)]
def KIC_59 : List am_k := [.inl (11, [2, 2, 2, 2, 2, 2, 2, 2, 2, 2, 2, 2, 2, 2, 1]), .inl (8, [2, 0]), .inr (0, 240), .inl (9, [0, 0, 0, 0, 0, 2, 2, 2, 2, 2, 2, 2, 2, 2, 2]), .inr (0, 8), .inr (0, 8), .inr (0, 8), .inr (0, 8), .inr (0, 8), .inr (0, 8), .inr (0, 6), .inr (0, 6), .inr (0, 21), .inr (0, 2), .inl (9, [0, 0, 0, 0, 0, 2, 2, 2, 2, 2, 2, 2, 2, 2, 2]), .inr (0, 8), .inr (0, 8), .inr (0, 8), .inr (0, 8), .inr (0, 8), .inr (0, 8), .inr (0, 6), .inr (0, 6), .inr (0, 21), .inr (0, 2), .inl (10, [2, 2, 2, 0, 0, 0]), .inr (0, 10), .inl (2, [2, 2, 0, 0]), .inr (0, 240), .inl (3, [2, 2, 2, 2, 2, 0, 0]), .inr (2, 4), .inr (0, 240), .inr (0, 240), .inr (0, 240), .inr (0, 240), .inr (0, 4), .inr (0, 32), .inr (0, 6), .inr (0, 4), .inl (7, [2, 2, 2, 2, 0, 0, 0]), .inr (0, 8), .inr (0, 8), .inl (5, [2, 2, 0, 0]), .inr (0, 420), .inr (0, 60), .inl (6, [2, 2, 2, 2, 2, 0, 0, 0]), .inr (1, 41), .inr (1, 41), .inr (0, 41), .inr (0, 41), .inr (0, 40), .inl (0, [2, 2, 2, 2, 2, 2, 2, 2, 0, 0, 0, 0]), .inr (0, 21), .inr (0, 21), .inr (0, 75), .inr (0, 75), .inr (0, 75), .inr (0, 75), .inl (1, [2, 2, 2, 0])]
def RIC_62 : List (Nat × Nat × Nat) := [(0, 9, 51), (51, 5, 57), (51, 4, 56), (51, 3, 55), (51, 2, 54), (51, 1, 53), (51, 0, 52), (0, 8, 45), (45, 4, 50), (45, 3, 49), (45, 2, 48), (45, 1, 47), (45, 0, 46), (0, 7, 42), (42, 1, 44), (42, 0, 43), (0, 6, 39), (39, 1, 29), (39, 0, 3), (39, 3, 41), (39, 2, 40), (0, 5, 29), (29, 4, 38), (29, 3, 37), (29, 2, 36), (29, 1, 35), (29, 0, 30), (30, 3, 34), (30, 2, 33), (30, 1, 32), (30, 0, 31), (0, 4, 27), (27, 0, 1), (27, 1, 28), (0, 3, 25), (25, 1, 14), (25, 0, 1), (25, 2, 26), (0, 2, 14), (14, 14, 24), (14, 13, 23), (14, 12, 22), (14, 11, 21), (14, 10, 20), (14, 9, 19), (14, 8, 18), (14, 7, 17), (14, 6, 16), (14, 5, 15), (0, 1, 3), (3, 14, 13), (3, 13, 12), (3, 12, 11), (3, 11, 10), (3, 10, 9), (3, 9, 8), (3, 8, 7), (3, 7, 6), (3, 6, 5), (3, 5, 4), (0, 0, 1), (1, 0, 2)]
def KIC_60 : List am_k := [.inl (11, [2, 2, 2, 2, 2, 2, 2, 2, 2, 2, 2, 2, 2, 2, 1]), .inl (8, [2, 0]), .inr (0, 240), .inl (9, [0, 0, 0, 0, 0, 2, 2, 2, 2, 2, 2, 2, 2, 2, 2]), .inr (0, 8), .inr (0, 8), .inr (0, 8), .inr (0, 8), .inr (0, 8), .inr (0, 8), .inr (0, 6), .inr (0, 6), .inr (0, 21), .inr (0, 2), .inl (9, [0, 0, 0, 0, 0, 2, 2, 2, 2, 2, 2, 2, 2, 2, 2]), .inr (0, 8), .inr (0, 8), .inr (0, 8), .inr (0, 8), .inr (0, 8), .inr (0, 8), .inr (0, 6), .inr (0, 6), .inr (0, 21), .inr (0, 2), .inl (10, [2, 2, 2, 0, 0, 0]), .inr (0, 10), .inl (2, [2, 2, 0, 0]), .inr (0, 240), .inl (3, [2, 2, 2, 2, 2, 0, 0]), .inr (2, 4), .inr (0, 240), .inr (0, 240), .inr (0, 240), .inr (0, 240), .inr (0, 4), .inr (0, 32), .inr (0, 6), .inr (0, 4), .inl (7, [2, 2, 2, 2, 0, 0, 0]), .inr (0, 8), .inr (0, 8), .inl (5, [2, 2, 0, 0]), .inr (0, 420), .inr (0, 60), .inl (6, [2, 2, 2, 2, 2, 0, 0, 0]), .inr (1, 41), .inr (1, 41), .inr (0, 41), .inr (0, 41), .inr (0, 40), .inl (0, [2, 2, 2, 2, 2, 2, 2, 2, 0, 0, 0, 0]), .inr (0, 21), .inr (0, 21), .inr (0, 75), .inr (0, 75), .inr (0, 75), .inr (0, 75), .inl (1, [2, 2, 2, 0]), .inr (0, 8)]
def RIC_65 : List (Nat × Nat × Nat) := [(58, 1, 39), (58, 0, 3), (58, 2, 59), (0, 9, 51), (51, 5, 57), (51, 4, 56), (51, 3, 55), (51, 2, 54), (51, 1, 53), (51, 0, 52), (0, 8, 45), (45, 4, 50), (45, 3, 49), (45, 2, 48), (45, 1, 47), (45, 0, 46), (0, 7, 42), (42, 1, 44), (42, 0, 43), (0, 6, 39), (39, 1, 29), (39, 0, 3), (39, 3, 41), (39, 2, 40), (0, 5, 29), (29, 4, 38), (29, 3, 37), (29, 2, 36), (29, 1, 35), (29, 0, 30), (30, 3, 34), (30, 2, 33), (30, 1, 32), (30, 0, 31), (0, 4, 27), (27, 0, 1), (27, 1, 28), (0, 3, 25), (25, 1, 14), (25, 0, 1), (25, 2, 26), (0, 2, 14), (14, 14, 24), (14, 13, 23), (14, 12, 22), (14, 11, 21), (14, 10, 20), (14, 9, 19), (14, 8, 18), (14, 7, 17), (14, 6, 16), (14, 5, 15), (0, 1, 3), (3, 14, 13), (3, 13, 12), (3, 12, 11), (3, 11, 10), (3, 10, 9), (3, 9, 8), (3, 8, 7), (3, 7, 6), (3, 6, 5), (3, 5, 4), (0, 0, 1), (1, 0, 2)]
def IIC_31 : List (Nat × Nat × Int32) := [(58, 3, 0), (51, 11, 0), (51, 10, 0), (51, 9, 0), (51, 8, 0), (45, 7, 0), (45, 6, 0), (45, 5, 0), (42, 3, 0), (42, 2, 0), (39, 6, 0), (39, 5, 0), (39, 4, 0), (29, 6, -1), (29, 5, 0), (27, 3, 0), (27, 2, 0), (25, 5, 0), (25, 4, 0), (25, 3, 0), (14, 4, 1), (14, 3, 0), (14, 2, 0), (14, 1, 0), (14, 0, 0), (3, 4, 1), (3, 3, 0), (3, 2, 0), (3, 1, 0), (3, 0, 0), (1, 1, 0)]
def KIC_61 : List am_k := [.inl (11, [2, 2, 2, 2, 2, 2, 2, 2, 2, 2, 2, 2, 2, 2, 1]), .inl (8, [2, 0]), .inr (0, 240), .inl (9, [0, 0, 0, 0, 0, 2, 2, 2, 2, 2, 2, 2, 2, 2, 2]), .inr (0, 8), .inr (0, 8), .inr (0, 8), .inr (0, 8), .inr (0, 8), .inr (0, 8), .inr (0, 6), .inr (0, 6), .inr (0, 21), .inr (0, 2), .inl (9, [0, 0, 0, 0, 0, 2, 2, 2, 2, 2, 2, 2, 2, 2, 2]), .inr (0, 8), .inr (0, 8), .inr (0, 8), .inr (0, 8), .inr (0, 8), .inr (0, 8), .inr (0, 6), .inr (0, 6), .inr (0, 21), .inr (0, 2), .inl (10, [2, 2, 2, 0, 0, 0]), .inr (0, 10), .inl (2, [2, 2, 0, 0]), .inr (0, 240), .inl (3, [2, 2, 2, 2, 2, 0, 0]), .inr (2, 4), .inr (0, 240), .inr (0, 240), .inr (0, 240), .inr (0, 240), .inr (0, 4), .inr (0, 32), .inr (0, 6), .inr (0, 4), .inl (7, [2, 2, 2, 2, 0, 0, 0]), .inr (0, 8), .inr (0, 8), .inl (5, [2, 2, 0, 0]), .inr (0, 420), .inr (0, 60), .inl (6, [2, 2, 2, 2, 2, 0, 0, 0]), .inr (1, 41), .inr (1, 41), .inr (0, 41), .inr (0, 41), .inr (0, 40), .inl (0, [2, 2, 2, 2, 2, 2, 2, 2, 0, 0, 0, 0]), .inr (0, 21), .inr (0, 21), .inr (0, 75), .inr (0, 75), .inr (0, 75), .inr (0, 75), .inl (1, [2, 2, 2, 0]), .inr (0, 8), .inl (4, [2, 2, 2, 2, 0, 0])]
def RIC_66 : List (Nat × Nat × Nat) := [(0, 10, 58), (58, 1, 39), (58, 0, 3), (58, 2, 59), (0, 9, 51), (51, 5, 57), (51, 4, 56), (51, 3, 55), (51, 2, 54), (51, 1, 53), (51, 0, 52), (0, 8, 45), (45, 4, 50), (45, 3, 49), (45, 2, 48), (45, 1, 47), (45, 0, 46), (0, 7, 42), (42, 1, 44), (42, 0, 43), (0, 6, 39), (39, 1, 29), (39, 0, 3), (39, 3, 41), (39, 2, 40), (0, 5, 29), (29, 4, 38), (29, 3, 37), (29, 2, 36), (29, 1, 35), (29, 0, 30), (30, 3, 34), (30, 2, 33), (30, 1, 32), (30, 0, 31), (0, 4, 27), (27, 0, 1), (27, 1, 28), (0, 3, 25), (25, 1, 14), (25, 0, 1), (25, 2, 26), (0, 2, 14), (14, 14, 24), (14, 13, 23), (14, 12, 22), (14, 11, 21), (14, 10, 20), (14, 9, 19), (14, 8, 18), (14, 7, 17), (14, 6, 16), (14, 5, 15), (0, 1, 3), (3, 14, 13), (3, 13, 12), (3, 12, 11), (3, 11, 10), (3, 10, 9), (3, 9, 8), (3, 8, 7), (3, 7, 6), (3, 6, 5), (3, 5, 4), (0, 0, 1), (1, 0, 2)]
def KIC_65 : List am_k := [.inl (11, [2, 2, 2, 2, 2, 2, 2, 2, 2, 2, 2, 2, 2, 2, 1]), .inl (8, [2, 0]), .inr (0, 240), .inl (9, [0, 0, 0, 0, 0, 2, 2, 2, 2, 2, 2, 2, 2, 2, 2]), .inr (0, 8), .inr (0, 8), .inr (0, 8), .inr (0, 8), .inr (0, 8), .inr (0, 8), .inr (0, 6), .inr (0, 6), .inr (0, 21), .inr (0, 2), .inl (9, [0, 0, 0, 0, 0, 2, 2, 2, 2, 2, 2, 2, 2, 2, 2]), .inr (0, 8), .inr (0, 8), .inr (0, 8), .inr (0, 8), .inr (0, 8), .inr (0, 8), .inr (0, 6), .inr (0, 6), .inr (0, 21), .inr (0, 2), .inl (10, [2, 2, 2, 0, 0, 0]), .inr (0, 10), .inl (2, [2, 2, 0, 0]), .inr (0, 240), .inl (3, [2, 2, 2, 2, 2, 0, 0]), .inr (2, 4), .inr (0, 240), .inr (0, 240), .inr (0, 240), .inr (0, 240), .inr (0, 4), .inr (0, 32), .inr (0, 6), .inr (0, 4), .inl (7, [2, 2, 2, 2, 0, 0, 0]), .inr (0, 8), .inr (0, 8), .inl (5, [2, 2, 0, 0]), .inr (0, 420), .inr (0, 60), .inl (6, [2, 2, 2, 2, 2, 0, 0, 0]), .inr (1, 41), .inr (1, 41), .inr (0, 41), .inr (0, 41), .inr (0, 40), .inl (0, [2, 2, 2, 2, 2, 2, 2, 2, 0, 0, 0, 0]), .inr (0, 21), .inr (0, 21), .inr (0, 75), .inr (0, 75), .inr (0, 75), .inr (0, 75), .inl (1, [2, 2, 2, 0]), .inr (0, 8), .inl (4, [2, 2, 2, 2, 0, 0]), .inr (0, 10), .inr (0, 10), .inr (0, 3), .inr (0, 84)]
def RIC_70 : List (Nat × Nat × Nat) := [(60, 3, 64), (60, 2, 63), (60, 1, 62), (60, 0, 61), (0, 10, 58), (58, 1, 39), (58, 0, 3), (58, 2, 59), (0, 9, 51), (51, 5, 57), (51, 4, 56), (51, 3, 55), (51, 2, 54), (51, 1, 53), (51, 0, 52), (0, 8, 45), (45, 4, 50), (45, 3, 49), (45, 2, 48), (45, 1, 47), (45, 0, 46), (0, 7, 42), (42, 1, 44), (42, 0, 43), (0, 6, 39), (39, 1, 29), (39, 0, 3), (39, 3, 41), (39, 2, 40), (0, 5, 29), (29, 4, 38), (29, 3, 37), (29, 2, 36), (29, 1, 35), (29, 0, 30), (30, 3, 34), (30, 2, 33), (30, 1, 32), (30, 0, 31), (0, 4, 27), (27, 0, 1), (27, 1, 28), (0, 3, 25), (25, 1, 14), (25, 0, 1), (25, 2, 26), (0, 2, 14), (14, 14, 24), (14, 13, 23), (14, 12, 22), (14, 11, 21), (14, 10, 20), (14, 9, 19), (14, 8, 18), (14, 7, 17), (14, 6, 16), (14, 5, 15), (0, 1, 3), (3, 14, 13), (3, 13, 12), (3, 12, 11), (3, 11, 10), (3, 10, 9), (3, 9, 8), (3, 8, 7), (3, 7, 6), (3, 6, 5), (3, 5, 4), (0, 0, 1), (1, 0, 2)]
def IIC_33 : List (Nat × Nat × Int32) := [(60, 5, 0), (60, 4, 0), (58, 3, 0), (51, 11, 0), (51, 10, 0), (51, 9, 0), (51, 8, 0), (45, 7, 0), (45, 6, 0), (45, 5, 0), (42, 3, 0), (42, 2, 0), (39, 6, 0), (39, 5, 0), (39, 4, 0), (29, 6, -1), (29, 5, 0), (27, 3, 0), (27, 2, 0), (25, 5, 0), (25, 4, 0), (25, 3, 0), (14, 4, 1), (14, 3, 0), (14, 2, 0), (14, 1, 0), (14, 0, 0), (3, 4, 1), (3, 3, 0), (3, 2, 0), (3, 1, 0), (3, 0, 0), (1, 1, 0)]
def KIC_67 : List am_k := [.inl (11, [2, 2, 2, 2, 2, 2, 2, 2, 2, 2, 2, 2, 2, 2, 1]), .inl (8, [2, 0]), .inr (0, 240), .inl (9, [0, 0, 0, 0, 0, 2, 2, 2, 2, 2, 2, 2, 2, 2, 2]), .inr (0, 8), .inr (0, 8), .inr (0, 8), .inr (0, 8), .inr (0, 8), .inr (0, 8), .inr (0, 6), .inr (0, 6), .inr (0, 21), .inr (0, 2), .inl (9, [0, 0, 0, 0, 0, 2, 2, 2, 2, 2, 2, 2, 2, 2, 2]), .inr (0, 8), .inr (0, 8), .inr (0, 8), .inr (0, 8), .inr (0, 8), .inr (0, 8), .inr (0, 6), .inr (0, 6), .inr (0, 21), .inr (0, 2), .inl (10, [2, 2, 2, 0, 0, 0]), .inr (0, 10), .inl (2, [2, 2, 0, 0]), .inr (0, 240), .inl (3, [2, 2, 2, 2, 2, 0, 0]), .inr (2, 4), .inr (0, 240), .inr (0, 240), .inr (0, 240), .inr (0, 240), .inr (0, 4), .inr (0, 32), .inr (0, 6), .inr (0, 4), .inl (7, [2, 2, 2, 2, 0, 0, 0]), .inr (0, 8), .inr (0, 8), .inl (5, [2, 2, 0, 0]), .inr (0, 420), .inr (0, 60), .inl (6, [2, 2, 2, 2, 2, 0, 0, 0]), .inr (1, 41), .inr (1, 41), .inr (0, 41), .inr (0, 41), .inr (0, 40), .inl (0, [2, 2, 2, 2, 2, 2, 2, 2, 0, 0, 0, 0]), .inr (0, 21), .inr (0, 21), .inr (0, 75), .inr (0, 75), .inr (0, 75), .inr (0, 75), .inl (1, [2, 2, 2, 0]), .inr (0, 8), .inl (4, [2, 2, 2, 2, 0, 0]), .inr (0, 10), .inr (0, 10), .inr (0, 3), .inr (0, 84), .inr (1, 21), .inr (0, 8)]
def RIC_73 : List (Nat × Nat × Nat) := [(0, 13, 66), (0, 12, 65), (0, 11, 60), (60, 3, 64), (60, 2, 63), (60, 1, 62), (60, 0, 61), (0, 10, 58), (58, 1, 39), (58, 0, 3), (58, 2, 59), (0, 9, 51), (51, 5, 57), (51, 4, 56), (51, 3, 55), (51, 2, 54), (51, 1, 53), (51, 0, 52), (0, 8, 45), (45, 4, 50), (45, 3, 49), (45, 2, 48), (45, 1, 47), (45, 0, 46), (0, 7, 42), (42, 1, 44), (42, 0, 43), (0, 6, 39), (39, 1, 29), (39, 0, 3), (39, 3, 41), (39, 2, 40), (0, 5, 29), (29, 4, 38), (29, 3, 37), (29, 2, 36), (29, 1, 35), (29, 0, 30), (30, 3, 34), (30, 2, 33), (30, 1, 32), (30, 0, 31), (0, 4, 27), (27, 0, 1), (27, 1, 28), (0, 3, 25), (25, 1, 14), (25, 0, 1), (25, 2, 26), (0, 2, 14), (14, 14, 24), (14, 13, 23), (14, 12, 22), (14, 11, 21), (14, 10, 20), (14, 9, 19), (14, 8, 18), (14, 7, 17), (14, 6, 16), (14, 5, 15), (0, 1, 3), (3, 14, 13), (3, 13, 12), (3, 12, 11), (3, 11, 10), (3, 10, 9), (3, 9, 8), (3, 8, 7), (3, 7, 6), (3, 6, 5), (3, 5, 4), (0, 0, 1), (1, 0, 2)]
def KIM_1 : List am_k := [.inl (12, [0, 2, 0, 0, 0, 0, 2, 2, 2, 2, 2, 2, 2, 0, 0, 2, 2, 2, 2, 2, 0, 0, 2, 2, 2, 0, 0, 2, 0, 2, 0, 1, 2, 2, 0, 0, 0, 2, 2, 0, 2, 2, 2, 0])]
def RIM_0 : List (Nat × Nat × Nat) := []
def IIM_0 : List (Nat × Nat × Int32) := []
def KIM_26 : List am_k := [.inl (12, [0, 2, 0, 0, 0, 0, 2, 2, 2, 2, 2, 2, 2, 0, 0, 2, 2, 2, 2, 2, 0, 0, 2, 2, 2, 0, 0, 2, 0, 2, 0, 1, 2, 2, 0, 0, 0, 2, 2, 0, 2, 2, 2, 0]), .inr (0, 240), .inr (0, 2600), .inr (0, 2600), .inr (0, 5), .inr (0, 5), .inr (0, 700), .inr (0, 700), .inr (0, 700), .inr (0, 6), .inr (0, 80), .inr (0, 48), .inr (0, 12), .inr (0, 2), .inr (0, 48), .inr (0, 12), .inr (0, 2), .inr (0, 206), .inr (0, 8240), .inr (0, 88200), .inr (0, 2), .inr (0, 10), .inr (0, 10), .inr (0, 84), .inr (1, 21), .inr (0, 206)]
def RIM_25 : List (Nat × Nat × Nat) := [(0, 42, 25), (0, 41, 24), (0, 40, 23), (0, 38, 22), (0, 37, 21), (0, 33, 20), (0, 32, 19), (0, 29, 18), (0, 27, 17), (0, 24, 16), (0, 23, 15), (0, 22, 14), (0, 19, 13), (0, 18, 12), (0, 17, 11), (0, 16, 10), (0, 15, 9), (0, 12, 8), (0, 11, 7), (0, 10, 6), (0, 9, 5), (0, 8, 4), (0, 7, 3), (0, 6, 2), (0, 1, 1)]
def IIM_1 : List (Nat × Nat × Int32) := [(0, 28, -1)]
set_option maxRecDepth 100000 in
set_option maxHeartbeats 8000000 in
theorem qiC_2_3 (l : Launch) (d : Nat) : am_CA l yX8_init cX8_init 1 none (d + 1) 1 240 (fun k => k < 2 ∨ 1000000 ≤ k) [.ref 1] KIC_2 (am_RL RIC_0) (am_IL IIC_0) am_L0 (fun S => S = (none, KIC_3, am_RL RIC_1, am_IL IIC_1, am_L0)) := by
  refine am_introA (plainFor_of_name plX8) (fun _ h => Or.inr h) (Nat.le_of_ble_eq_true rfl) (fun x hl hc hk0 => ?_)
  subst hl
  refine j_sub (lv' := [some (.ref 1)]) ?_ (And.intro rfl (trivial))
  refine j_aload_n hc dX8_init_0 rfl ?_
  refine j_objInit hc dX8_init_1 (am_mem 154 ki_154 rfl) ⟨(am_mem 147 ki_147 rfl), am_mem 148 ki_148 rfl⟩ (by omega) (Nat.le_of_ble_eq_true rfl) ?_
  refine j_aload_n hc dX8_init_4 rfl ?_
  refine j_sipush (v := (240 : Int32)) hc dX8_init_5 (by decide) ?_
  refine j_newI (n := 2) (N := 240) hc dX8_init_8 rfl (am_mem 165 ki_165 rfl) (by decide) (by decide) (am_IL_no rfl) (am_RL_ne rfl) (am_k8 hk0 (by decide) (by decide)) rfl ⟨by decide, by decide⟩ ?_
  refine j_putRF (t := 1) (j := 0) (u := 2) (ty := (.array .int)) hc dX8_init_10 ⟨8, 2, RX8, TX8, _, tyX8, rfl, clX8, inX8, (am_mem 155 ki_155 rfl), by decide, rfl, tyX8_ok, nmX8, by decide +kernel, rfl, fun _ => rfl⟩ rfl (fun _ => rfl) (fun _ => rfl) ?_
  rw [am_RL_put]
  refine j_aload_n hc dX8_init_13 rfl ?_
  refine j_iconst (v := (0 : Int32)) hc dX8_init_14 (by decide) ?_
  refine j_putId (t := 1) (j := 1) (ty := .int) hc dX8_init_15 ⟨8, 2, RX8, TX8, _, tyX8, rfl, clX8, inX8, (am_mem 156 ki_156 rfl), by decide, rfl, tyX8_ok, nmX8, by decide +kernel, rfl, fun h => Bool.noConfusion h⟩ rfl rfl ?_
  rw [am_IL_put]
  exact j_return hc dX8_init_18 rfl rfl rfl
set_option maxRecDepth 100000 in
set_option maxHeartbeats 8000000 in
theorem qiC_4_14 (l : Launch) (d : Nat) : am_CA l yX9_init cX9_init 1 none (d + 1) 10 83 (fun k => k < 4 ∨ 1000000 ≤ k) [.ref 3] KIC_4 (am_RL RIC_2) (am_IL IIC_1) am_L0 (fun S => S = (none, KIC_14, am_RL RIC_12, am_IL IIC_6, am_L0)) := by
  refine am_introA (plainFor_of_name plX9) (fun _ h => Or.inr h) (Nat.le_of_ble_eq_true rfl) (fun x hl hc hk0 => ?_)
  subst hl
  refine j_sub (lv' := [some (.ref 3)]) ?_ (And.intro rfl (trivial))
  refine j_aload_n hc dX9_init_0 rfl ?_
  refine j_objInit hc dX9_init_1 (am_mem 171 ki_171 rfl) ⟨(am_mem 147 ki_147 rfl), am_mem 148 ki_148 rfl⟩ (by omega) (Nat.le_of_ble_eq_true rfl) ?_
  refine j_aload_n hc dX9_init_4 rfl ?_
  refine j_iconst (v := (0 : Int32)) hc dX9_init_5 (by decide) ?_
  refine j_putId (t := 3) (j := 0) (ty := .int) hc dX9_init_6 ⟨9, 15, RX9, TX9, _, tyX9, rfl, clX9, inX9, (am_mem 172 ki_172 rfl), by decide, rfl, tyX9_ok, nmX9, by decide +kernel, rfl, fun h => Bool.noConfusion h⟩ rfl rfl ?_
  rw [am_IL_put]
  refine j_aload_n hc dX9_init_9 rfl ?_
  refine j_iconst (v := (0 : Int32)) hc dX9_init_10 (by decide) ?_
  refine j_putId (t := 3) (j := 1) (ty := .int) hc dX9_init_11 ⟨9, 15, RX9, TX9, _, tyX9, rfl, clX9, inX9, (am_mem 177 ki_177 rfl), by decide, rfl, tyX9_ok, nmX9, by decide +kernel, rfl, fun h => Bool.noConfusion h⟩ rfl rfl ?_
  rw [am_IL_put]
  refine j_aload_n hc dX9_init_14 rfl ?_
  refine j_iconst (v := (0 : Int32)) hc dX9_init_15 (by decide) ?_
  refine j_putId (t := 3) (j := 2) (ty := .int) hc dX9_init_16 ⟨9, 15, RX9, TX9, _, tyX9, rfl, clX9, inX9, (am_mem 180 ki_180 rfl), by decide, rfl, tyX9_ok, nmX9, by decide +kernel, rfl, fun h => Bool.noConfusion h⟩ rfl rfl ?_
  rw [am_IL_put]
  refine j_aload_n hc dX9_init_19 rfl ?_
  refine j_iconst (v := (0 : Int32)) hc dX9_init_20 (by decide) ?_
  refine j_putId (t := 3) (j := 3) (ty := .int) hc dX9_init_21 ⟨9, 15, RX9, TX9, _, tyX9, rfl, clX9, inX9, (am_mem 183 ki_183 rfl), by decide, rfl, tyX9_ok, nmX9, by decide +kernel, rfl, fun h => Bool.noConfusion h⟩ rfl rfl ?_
  rw [am_IL_put]
  refine j_aload_n hc dX9_init_24 rfl ?_
  refine j_iconst (v := (1 : Int32)) hc dX9_init_25 (by decide) ?_
  refine j_putId (t := 3) (j := 4) (ty := .boolean) hc dX9_init_26 ⟨9, 15, RX9, TX9, _, tyX9, rfl, clX9, inX9, (am_mem 187 ki_187 rfl), by decide, rfl, tyX9_ok, nmX9, by decide +kernel, rfl, fun h => Bool.noConfusion h⟩ rfl rfl ?_
  rw [am_IL_put]
  refine j_aload_n hc dX9_init_29 rfl ?_
  refine j_bipush (v := (8 : Int32)) hc dX9_init_30 (by decide) ?_
  refine j_newI (n := 4) (N := 8) hc dX9_init_32 rfl (am_mem 165 ki_165 rfl) (by decide) (by decide) (am_IL_no rfl) (am_RL_ne rfl) (am_k8 hk0 (by decide) (by decide)) rfl ⟨by decide, by decide⟩ ?_
  refine j_putRF (t := 3) (j := 5) (u := 4) (ty := (.array .int)) hc dX9_init_34 ⟨9, 15, RX9, TX9, _, tyX9, rfl, clX9, inX9, (am_mem 188 ki_188 rfl), by decide, rfl, tyX9_ok, nmX9, by decide +kernel, rfl, fun _ => rfl⟩ rfl (fun _ => rfl) (fun _ => rfl) ?_
  rw [am_RL_put]
  refine j_aload_n hc dX9_init_37 rfl ?_
  refine j_bipush (v := (8 : Int32)) hc dX9_init_38 (by decide) ?_
  refine j_newI (n := 5) (N := 8) hc dX9_init_40 rfl (am_mem 165 ki_165 rfl) (by decide) (by decide) (am_IL_no rfl) (am_RL_ne rfl) (am_k8 hk0 (by decide) (by decide)) rfl ⟨by decide, by decide⟩ ?_
  refine j_putRF (t := 3) (j := 6) (u := 5) (ty := (.array .int)) hc dX9_init_42 ⟨9, 15, RX9, TX9, _, tyX9, rfl, clX9, inX9, (am_mem 192 ki_192 rfl), by decide, rfl, tyX9_ok, nmX9, by decide +kernel, rfl, fun _ => rfl⟩ rfl (fun _ => rfl) (fun _ => rfl) ?_
  rw [am_RL_put]
  refine j_aload_n hc dX9_init_45 rfl ?_
  refine j_bipush (v := (8 : Int32)) hc dX9_init_46 (by decide) ?_
  refine j_newI (n := 6) (N := 8) hc dX9_init_48 rfl (am_mem 165 ki_165 rfl) (by decide) (by decide) (am_IL_no rfl) (am_RL_ne rfl) (am_k8 hk0 (by decide) (by decide)) rfl ⟨by decide, by decide⟩ ?_
  refine j_putRF (t := 3) (j := 7) (u := 6) (ty := (.array .int)) hc dX9_init_50 ⟨9, 15, RX9, TX9, _, tyX9, rfl, clX9, inX9, (am_mem 194 ki_194 rfl), by decide, rfl, tyX9_ok, nmX9, by decide +kernel, rfl, fun _ => rfl⟩ rfl (fun _ => rfl) (fun _ => rfl) ?_
  rw [am_RL_put]
  refine j_aload_n hc dX9_init_53 rfl ?_
  refine j_bipush (v := (8 : Int32)) hc dX9_init_54 (by decide) ?_
  refine j_newI (n := 7) (N := 8) hc dX9_init_56 rfl (am_mem 165 ki_165 rfl) (by decide) (by decide) (am_IL_no rfl) (am_RL_ne rfl) (am_k8 hk0 (by decide) (by decide)) rfl ⟨by decide, by decide⟩ ?_
  refine j_putRF (t := 3) (j := 8) (u := 7) (ty := (.array .int)) hc dX9_init_58 ⟨9, 15, RX9, TX9, _, tyX9, rfl, clX9, inX9, (am_mem 197 ki_197 rfl), by decide, rfl, tyX9_ok, nmX9, by decide +kernel, rfl, fun _ => rfl⟩ rfl (fun _ => rfl) (fun _ => rfl) ?_
  rw [am_RL_put]
  refine j_aload_n hc dX9_init_61 rfl ?_
  refine j_bipush (v := (8 : Int32)) hc dX9_init_62 (by decide) ?_
  refine j_newI (n := 8) (N := 8) hc dX9_init_64 rfl (am_mem 165 ki_165 rfl) (by decide) (by decide) (am_IL_no rfl) (am_RL_ne rfl) (am_k8 hk0 (by decide) (by decide)) rfl ⟨by decide, by decide⟩ ?_
  refine j_putRF (t := 3) (j := 9) (u := 8) (ty := (.array .int)) hc dX9_init_66 ⟨9, 15, RX9, TX9, _, tyX9, rfl, clX9, inX9, (am_mem 200 ki_200 rfl), by decide, rfl, tyX9_ok, nmX9, by decide +kernel, rfl, fun _ => rfl⟩ rfl (fun _ => rfl) (fun _ => rfl) ?_
  rw [am_RL_put]
  refine j_aload_n hc dX9_init_69 rfl ?_
  refine j_bipush (v := (8 : Int32)) hc dX9_init_70 (by decide) ?_
  refine j_newI (n := 9) (N := 8) hc dX9_init_72 rfl (am_mem 165 ki_165 rfl) (by decide) (by decide) (am_IL_no rfl) (am_RL_ne rfl) (am_k8 hk0 (by decide) (by decide)) rfl ⟨by decide, by decide⟩ ?_
  refine j_putRF (t := 3) (j := 10) (u := 9) (ty := (.array .int)) hc dX9_init_74 ⟨9, 15, RX9, TX9, _, tyX9, rfl, clX9, inX9, (am_mem 203 ki_203 rfl), by decide, rfl, tyX9_ok, nmX9, by decide +kernel, rfl, fun _ => rfl⟩ rfl (fun _ => rfl) (fun _ => rfl) ?_
  rw [am_RL_put]
  refine j_aload_n hc dX9_init_77 rfl ?_
  refine j_bipush (v := (6 : Int32)) hc dX9_init_78 (by decide) ?_
  refine j_newI (n := 10) (N := 6) hc dX9_init_80 rfl (am_mem 165 ki_165 rfl) (by decide) (by decide) (am_IL_no rfl) (am_RL_ne rfl) (am_k8 hk0 (by decide) (by decide)) rfl ⟨by decide, by decide⟩ ?_
  refine j_putRF (t := 3) (j := 11) (u := 10) (ty := (.array .int)) hc dX9_init_82 ⟨9, 15, RX9, TX9, _, tyX9, rfl, clX9, inX9, (am_mem 206 ki_206 rfl), by decide, rfl, tyX9_ok, nmX9, by decide +kernel, rfl, fun _ => rfl⟩ rfl (fun _ => rfl) (fun _ => rfl) ?_
  rw [am_RL_put]
  refine j_aload_n hc dX9_init_85 rfl ?_
  refine j_bipush (v := (6 : Int32)) hc dX9_init_86 (by decide) ?_
  refine j_newI (n := 11) (N := 6) hc dX9_init_88 rfl (am_mem 165 ki_165 rfl) (by decide) (by decide) (am_IL_no rfl) (am_RL_ne rfl) (am_k8 hk0 (by decide) (by decide)) rfl ⟨by decide, by decide⟩ ?_
  refine j_putRF (t := 3) (j := 12) (u := 11) (ty := (.array .int)) hc dX9_init_90 ⟨9, 15, RX9, TX9, _, tyX9, rfl, clX9, inX9, (am_mem 208 ki_208 rfl), by decide, rfl, tyX9_ok, nmX9, by decide +kernel, rfl, fun _ => rfl⟩ rfl (fun _ => rfl) (fun _ => rfl) ?_
  rw [am_RL_put]
  refine j_aload_n hc dX9_init_93 rfl ?_
  refine j_bipush (v := (21 : Int32)) hc dX9_init_94 (by decide) ?_
  refine j_newI (n := 12) (N := 21) hc dX9_init_96 rfl (am_mem 165 ki_165 rfl) (by decide) (by decide) (am_IL_no rfl) (am_RL_ne rfl) (am_k8 hk0 (by decide) (by decide)) rfl ⟨by decide, by decide⟩ ?_
  refine j_putRF (t := 3) (j := 13) (u := 12) (ty := (.array .int)) hc dX9_init_98 ⟨9, 15, RX9, TX9, _, tyX9, rfl, clX9, inX9, (am_mem 210 ki_210 rfl), by decide, rfl, tyX9_ok, nmX9, by decide +kernel, rfl, fun _ => rfl⟩ rfl (fun _ => rfl) (fun _ => rfl) ?_
  rw [am_RL_put]
  refine j_aload_n hc dX9_init_101 rfl ?_
  refine j_iconst (v := (2 : Int32)) hc dX9_init_102 (by decide) ?_
  refine j_newI (n := 13) (N := 2) hc dX9_init_103 rfl (am_mem 165 ki_165 rfl) (by decide) (by decide) (am_IL_no rfl) (am_RL_ne rfl) (am_k8 hk0 (by decide) (by decide)) rfl ⟨by decide, by decide⟩ ?_
  refine j_putRF (t := 3) (j := 14) (u := 13) (ty := (.array .int)) hc dX9_init_105 ⟨9, 15, RX9, TX9, _, tyX9, rfl, clX9, inX9, (am_mem 213 ki_213 rfl), by decide, rfl, tyX9_ok, nmX9, by decide +kernel, rfl, fun _ => rfl⟩ rfl (fun _ => rfl) (fun _ => rfl) ?_
  rw [am_RL_put]
  exact j_return hc dX9_init_108 rfl rfl rfl
set_option maxRecDepth 100000 in
set_option maxHeartbeats 8000000 in
theorem qiC_15_25 (l : Launch) (d : Nat) : am_CA l yX9_init cX9_init 1 none (d + 1) 10 83 (fun k => k < 15 ∨ 1000000 ≤ k) [.ref 14] KIC_15 (am_RL RIC_13) (am_IL IIC_6) am_L0 (fun S => S = (none, KIC_25, am_RL RIC_23, am_IL IIC_11, am_L0)) := by
  refine am_introA (plainFor_of_name plX9) (fun _ h => Or.inr h) (Nat.le_of_ble_eq_true rfl) (fun x hl hc hk0 => ?_)
  subst hl
  refine j_sub (lv' := [some (.ref 14)]) ?_ (And.intro rfl (trivial))
  refine j_aload_n hc dX9_init_0 rfl ?_
  refine j_objInit hc dX9_init_1 (am_mem 171 ki_171 rfl) ⟨(am_mem 147 ki_147 rfl), am_mem 148 ki_148 rfl⟩ (by omega) (Nat.le_of_ble_eq_true rfl) ?_
  refine j_aload_n hc dX9_init_4 rfl ?_
  refine j_iconst (v := (0 : Int32)) hc dX9_init_5 (by decide) ?_
  refine j_putId (t := 14) (j := 0) (ty := .int) hc dX9_init_6 ⟨9, 15, RX9, TX9, _, tyX9, rfl, clX9, inX9, (am_mem 172 ki_172 rfl), by decide, rfl, tyX9_ok, nmX9, by decide +kernel, rfl, fun h => Bool.noConfusion h⟩ rfl rfl ?_
  rw [am_IL_put]
  refine j_aload_n hc dX9_init_9 rfl ?_
  refine j_iconst (v := (0 : Int32)) hc dX9_init_10 (by decide) ?_
  refine j_putId (t := 14) (j := 1) (ty := .int) hc dX9_init_11 ⟨9, 15, RX9, TX9, _, tyX9, rfl, clX9, inX9, (am_mem 177 ki_177 rfl), by decide, rfl, tyX9_ok, nmX9, by decide +kernel, rfl, fun h => Bool.noConfusion h⟩ rfl rfl ?_
  rw [am_IL_put]
  refine j_aload_n hc dX9_init_14 rfl ?_
  refine j_iconst (v := (0 : Int32)) hc dX9_init_15 (by decide) ?_
  refine j_putId (t := 14) (j := 2) (ty := .int) hc dX9_init_16 ⟨9, 15, RX9, TX9, _, tyX9, rfl, clX9, inX9, (am_mem 180 ki_180 rfl), by decide, rfl, tyX9_ok, nmX9, by decide +kernel, rfl, fun h => Bool.noConfusion h⟩ rfl rfl ?_
  rw [am_IL_put]
  refine j_aload_n hc dX9_init_19 rfl ?_
  refine j_iconst (v := (0 : Int32)) hc dX9_init_20 (by decide) ?_
  refine j_putId (t := 14) (j := 3) (ty := .int) hc dX9_init_21 ⟨9, 15, RX9, TX9, _, tyX9, rfl, clX9, inX9, (am_mem 183 ki_183 rfl), by decide, rfl, tyX9_ok, nmX9, by decide +kernel, rfl, fun h => Bool.noConfusion h⟩ rfl rfl ?_
  rw [am_IL_put]
  refine j_aload_n hc dX9_init_24 rfl ?_
  refine j_iconst (v := (1 : Int32)) hc dX9_init_25 (by decide) ?_
  refine j_putId (t := 14) (j := 4) (ty := .boolean) hc dX9_init_26 ⟨9, 15, RX9, TX9, _, tyX9, rfl, clX9, inX9, (am_mem 187 ki_187 rfl), by decide, rfl, tyX9_ok, nmX9, by decide +kernel, rfl, fun h => Bool.noConfusion h⟩ rfl rfl ?_
  rw [am_IL_put]
  refine j_aload_n hc dX9_init_29 rfl ?_
  refine j_bipush (v := (8 : Int32)) hc dX9_init_30 (by decide) ?_
  refine j_newI (n := 15) (N := 8) hc dX9_init_32 rfl (am_mem 165 ki_165 rfl) (by decide) (by decide) (am_IL_no rfl) (am_RL_ne rfl) (am_k8 hk0 (by decide) (by decide)) rfl ⟨by decide, by decide⟩ ?_
  refine j_putRF (t := 14) (j := 5) (u := 15) (ty := (.array .int)) hc dX9_init_34 ⟨9, 15, RX9, TX9, _, tyX9, rfl, clX9, inX9, (am_mem 188 ki_188 rfl), by decide, rfl, tyX9_ok, nmX9, by decide +kernel, rfl, fun _ => rfl⟩ rfl (fun _ => rfl) (fun _ => rfl) ?_
  rw [am_RL_put]
  refine j_aload_n hc dX9_init_37 rfl ?_
  refine j_bipush (v := (8 : Int32)) hc dX9_init_38 (by decide) ?_
  refine j_newI (n := 16) (N := 8) hc dX9_init_40 rfl (am_mem 165 ki_165 rfl) (by decide) (by decide) (am_IL_no rfl) (am_RL_ne rfl) (am_k8 hk0 (by decide) (by decide)) rfl ⟨by decide, by decide⟩ ?_
  refine j_putRF (t := 14) (j := 6) (u := 16) (ty := (.array .int)) hc dX9_init_42 ⟨9, 15, RX9, TX9, _, tyX9, rfl, clX9, inX9, (am_mem 192 ki_192 rfl), by decide, rfl, tyX9_ok, nmX9, by decide +kernel, rfl, fun _ => rfl⟩ rfl (fun _ => rfl) (fun _ => rfl) ?_
  rw [am_RL_put]
  refine j_aload_n hc dX9_init_45 rfl ?_
  refine j_bipush (v := (8 : Int32)) hc dX9_init_46 (by decide) ?_
  refine j_newI (n := 17) (N := 8) hc dX9_init_48 rfl (am_mem 165 ki_165 rfl) (by decide) (by decide) (am_IL_no rfl) (am_RL_ne rfl) (am_k8 hk0 (by decide) (by decide)) rfl ⟨by decide, by decide⟩ ?_
  refine j_putRF (t := 14) (j := 7) (u := 17) (ty := (.array .int)) hc dX9_init_50 ⟨9, 15, RX9, TX9, _, tyX9, rfl, clX9, inX9, (am_mem 194 ki_194 rfl), by decide, rfl, tyX9_ok, nmX9, by decide +kernel, rfl, fun _ => rfl⟩ rfl (fun _ => rfl) (fun _ => rfl) ?_
  rw [am_RL_put]
  refine j_aload_n hc dX9_init_53 rfl ?_
  refine j_bipush (v := (8 : Int32)) hc dX9_init_54 (by decide) ?_
  refine j_newI (n := 18) (N := 8) hc dX9_init_56 rfl (am_mem 165 ki_165 rfl) (by decide) (by decide) (am_IL_no rfl) (am_RL_ne rfl) (am_k8 hk0 (by decide) (by decide)) rfl ⟨by decide, by decide⟩ ?_
  refine j_putRF (t := 14) (j := 8) (u := 18) (ty := (.array .int)) hc dX9_init_58 ⟨9, 15, RX9, TX9, _, tyX9, rfl, clX9, inX9, (am_mem 197 ki_197 rfl), by decide, rfl, tyX9_ok, nmX9, by decide +kernel, rfl, fun _ => rfl⟩ rfl (fun _ => rfl) (fun _ => rfl) ?_
  rw [am_RL_put]
  refine j_aload_n hc dX9_init_61 rfl ?_
  refine j_bipush (v := (8 : Int32)) hc dX9_init_62 (by decide) ?_
  refine j_newI (n := 19) (N := 8) hc dX9_init_64 rfl (am_mem 165 ki_165 rfl) (by decide) (by decide) (am_IL_no rfl) (am_RL_ne rfl) (am_k8 hk0 (by decide) (by decide)) rfl ⟨by decide, by decide⟩ ?_
  refine j_putRF (t := 14) (j := 9) (u := 19) (ty := (.array .int)) hc dX9_init_66 ⟨9, 15, RX9, TX9, _, tyX9, rfl, clX9, inX9, (am_mem 200 ki_200 rfl), by decide, rfl, tyX9_ok, nmX9, by decide +kernel, rfl, fun _ => rfl⟩ rfl (fun _ => rfl) (fun _ => rfl) ?_
  rw [am_RL_put]
  refine j_aload_n hc dX9_init_69 rfl ?_
  refine j_bipush (v := (8 : Int32)) hc dX9_init_70 (by decide) ?_
  refine j_newI (n := 20) (N := 8) hc dX9_init_72 rfl (am_mem 165 ki_165 rfl) (by decide) (by decide) (am_IL_no rfl) (am_RL_ne rfl) (am_k8 hk0 (by decide) (by decide)) rfl ⟨by decide, by decide⟩ ?_
  refine j_putRF (t := 14) (j := 10) (u := 20) (ty := (.array .int)) hc dX9_init_74 ⟨9, 15, RX9, TX9, _, tyX9, rfl, clX9, inX9, (am_mem 203 ki_203 rfl), by decide, rfl, tyX9_ok, nmX9, by decide +kernel, rfl, fun _ => rfl⟩ rfl (fun _ => rfl) (fun _ => rfl) ?_
  rw [am_RL_put]
  refine j_aload_n hc dX9_init_77 rfl ?_
  refine j_bipush (v := (6 : Int32)) hc dX9_init_78 (by decide) ?_
  refine j_newI (n := 21) (N := 6) hc dX9_init_80 rfl (am_mem 165 ki_165 rfl) (by decide) (by decide) (am_IL_no rfl) (am_RL_ne rfl) (am_k8 hk0 (by decide) (by decide)) rfl ⟨by decide, by decide⟩ ?_
  refine j_putRF (t := 14) (j := 11) (u := 21) (ty := (.array .int)) hc dX9_init_82 ⟨9, 15, RX9, TX9, _, tyX9, rfl, clX9, inX9, (am_mem 206 ki_206 rfl), by decide, rfl, tyX9_ok, nmX9, by decide +kernel, rfl, fun _ => rfl⟩ rfl (fun _ => rfl) (fun _ => rfl) ?_
  rw [am_RL_put]
  refine j_aload_n hc dX9_init_85 rfl ?_
  refine j_bipush (v := (6 : Int32)) hc dX9_init_86 (by decide) ?_
  refine j_newI (n := 22) (N := 6) hc dX9_init_88 rfl (am_mem 165 ki_165 rfl) (by decide) (by decide) (am_IL_no rfl) (am_RL_ne rfl) (am_k8 hk0 (by decide) (by decide)) rfl ⟨by decide, by decide⟩ ?_
  refine j_putRF (t := 14) (j := 12) (u := 22) (ty := (.array .int)) hc dX9_init_90 ⟨9, 15, RX9, TX9, _, tyX9, rfl, clX9, inX9, (am_mem 208 ki_208 rfl), by decide, rfl, tyX9_ok, nmX9, by decide +kernel, rfl, fun _ => rfl⟩ rfl (fun _ => rfl) (fun _ => rfl) ?_
  rw [am_RL_put]
  refine j_aload_n hc dX9_init_93 rfl ?_
  refine j_bipush (v := (21 : Int32)) hc dX9_init_94 (by decide) ?_
  refine j_newI (n := 23) (N := 21) hc dX9_init_96 rfl (am_mem 165 ki_165 rfl) (by decide) (by decide) (am_IL_no rfl) (am_RL_ne rfl) (am_k8 hk0 (by decide) (by decide)) rfl ⟨by decide, by decide⟩ ?_
  refine j_putRF (t := 14) (j := 13) (u := 23) (ty := (.array .int)) hc dX9_init_98 ⟨9, 15, RX9, TX9, _, tyX9, rfl, clX9, inX9, (am_mem 210 ki_210 rfl), by decide, rfl, tyX9_ok, nmX9, by decide +kernel, rfl, fun _ => rfl⟩ rfl (fun _ => rfl) (fun _ => rfl) ?_
  rw [am_RL_put]
  refine j_aload_n hc dX9_init_101 rfl ?_
  refine j_iconst (v := (2 : Int32)) hc dX9_init_102 (by decide) ?_
  refine j_newI (n := 24) (N := 2) hc dX9_init_103 rfl (am_mem 165 ki_165 rfl) (by decide) (by decide) (am_IL_no rfl) (am_RL_ne rfl) (am_k8 hk0 (by decide) (by decide)) rfl ⟨by decide, by decide⟩ ?_
  refine j_putRF (t := 14) (j := 14) (u := 24) (ty := (.array .int)) hc dX9_init_105 ⟨9, 15, RX9, TX9, _, tyX9, rfl, clX9, inX9, (am_mem 213 ki_213 rfl), by decide, rfl, tyX9_ok, nmX9, by decide +kernel, rfl, fun _ => rfl⟩ rfl (fun _ => rfl) (fun _ => rfl) ?_
  rw [am_RL_put]
  exact j_return hc dX9_init_108 rfl rfl rfl
set_option maxRecDepth 100000 in
set_option maxHeartbeats 8000000 in
theorem qiC_26_27 (l : Launch) (d : Nat) : am_CA l yX10_init cX10_init 3 none (d + 1) 1 10 (fun k => k < 26 ∨ 1000000 ≤ k) [.ref 25, .ref 1, .ref 14] KIC_26 (am_RL RIC_24) (am_IL IIC_11) am_L0 (fun S => S = (none, KIC_27, am_RL RIC_27, am_IL IIC_14, am_L0)) := by
  refine am_introA (plainFor_of_name plX10) (fun _ h => Or.inr h) (Nat.le_of_ble_eq_true rfl) (fun x hl hc hk0 => ?_)
  subst hl
  refine j_sub (lv' := [some (.ref 25), some (.ref 1), some (.ref 14)]) ?_ (And.intro rfl (And.intro rfl (And.intro rfl (trivial))))
  refine j_aload_n hc dX10_init_0 rfl ?_
  refine j_objInit hc dX10_init_1 (am_mem 252 ki_252 rfl) ⟨(am_mem 147 ki_147 rfl), am_mem 148 ki_148 rfl⟩ (by omega) (Nat.le_of_ble_eq_true rfl) ?_
  refine j_aload_n hc dX10_init_4 rfl ?_
  refine j_bipush (v := (10 : Int32)) hc dX10_init_5 (by decide) ?_
  refine j_newI (n := 26) (N := 10) hc dX10_init_7 rfl (am_mem 165 ki_165 rfl) (by decide) (by decide) (am_IL_no rfl) (am_RL_ne rfl) (am_k8 hk0 (by decide) (by decide)) rfl ⟨by decide, by decide⟩ ?_
  refine j_putRF (t := 25) (j := 2) (u := 26) (ty := (.array .int)) hc dX10_init_9 ⟨10, 6, RX10, TX10, _, tyX10, rfl, clX10, inX10, (am_mem 255 ki_255 rfl), by decide, rfl, tyX10_ok, nmX10, by decide +kernel, rfl, fun _ => rfl⟩ rfl (fun _ => rfl) (fun _ => rfl) ?_
  rw [am_RL_put]
  refine j_aload_n hc dX10_init_12 rfl ?_
  refine j_iconst (v := (0 : Int32)) hc dX10_init_13 (by decide) ?_
  refine j_putId (t := 25) (j := 3) (ty := .int) hc dX10_init_14 ⟨10, 6, RX10, TX10, _, tyX10, rfl, clX10, inX10, (am_mem 256 ki_256 rfl), by decide, rfl, tyX10_ok, nmX10, by decide +kernel, rfl, fun h => Bool.noConfusion h⟩ rfl rfl ?_
  rw [am_IL_put]
  refine j_aload_n hc dX10_init_17 rfl ?_
  refine j_iconst (v := (0 : Int32)) hc dX10_init_18 (by decide) ?_
  refine j_putId (t := 25) (j := 4) (ty := .int) hc dX10_init_19 ⟨10, 6, RX10, TX10, _, tyX10, rfl, clX10, inX10, (am_mem 257 ki_257 rfl), by decide, rfl, tyX10_ok, nmX10, by decide +kernel, rfl, fun h => Bool.noConfusion h⟩ rfl rfl ?_
  rw [am_IL_put]
  refine j_aload_n hc dX10_init_22 rfl ?_
  refine j_iconst (v := (0 : Int32)) hc dX10_init_23 (by decide) ?_
  refine j_putId (t := 25) (j := 5) (ty := .boolean) hc dX10_init_24 ⟨10, 6, RX10, TX10, _, tyX10, rfl, clX10, inX10, (am_mem 258 ki_258 rfl), by decide, rfl, tyX10_ok, nmX10, by decide +kernel, rfl, fun h => Bool.noConfusion h⟩ rfl rfl ?_
  rw [am_IL_put]
  refine j_aload_n hc dX10_init_27 rfl ?_
  refine j_aload_n hc dX10_init_28 rfl ?_
  refine j_putRF (t := 25) (j := 0) (u := 1) (ty := (.object "LastHome$Tape")) hc dX10_init_29 ⟨10, 6, RX10, TX10, _, tyX10, rfl, clX10, inX10, (am_mem 253 ki_253 rfl), by decide, rfl, tyX10_ok, nmX10, by decide +kernel, rfl, fun _ => rfl⟩ rfl (fun _ => rfl) (fun _ => rfl) ?_
  rw [am_RL_put]
  refine j_aload_n hc dX10_init_32 rfl ?_
  refine j_aload_n hc dX10_init_33 rfl ?_
  refine j_putRF (t := 25) (j := 1) (u := 14) (ty := (.object "LastHome$War")) hc dX10_init_34 ⟨10, 6, RX10, TX10, _, tyX10, rfl, clX10, inX10, (am_mem 254 ki_254 rfl), by decide, rfl, tyX10_ok, nmX10, by decide +kernel, rfl, fun _ => rfl⟩ rfl (fun _ => rfl) (fun _ => rfl) ?_
  rw [am_RL_put]
  exact j_return hc dX10_init_37 rfl rfl rfl
set_option maxRecDepth 100000 in
set_option maxHeartbeats 8000000 in
theorem qiC_28_29 (l : Launch) (d : Nat) : am_CA l yX2_init cX2_init 2 none (d + 1) 1 240 (fun k => k < 28 ∨ 1000000 ≤ k) [.ref 27, .ref 1] KIC_28 (am_RL RIC_28) (am_IL IIC_14) am_L0 (fun S => S = (none, KIC_29, am_RL RIC_30, am_IL IIC_16, am_L0)) := by
  refine am_introA (plainFor_of_name plX2) (fun _ h => Or.inr h) (Nat.le_of_ble_eq_true rfl) (fun x hl hc hk0 => ?_)
  subst hl
  refine j_sub (lv' := [some (.ref 27), some (.ref 1)]) ?_ (And.intro rfl (And.intro rfl (trivial)))
  refine j_aload_n hc dX2_init_0 rfl ?_
  refine j_objInit hc dX2_init_1 (am_mem 277 ki_277 rfl) ⟨(am_mem 147 ki_147 rfl), am_mem 148 ki_148 rfl⟩ (by omega) (Nat.le_of_ble_eq_true rfl) ?_
  refine j_aload_n hc dX2_init_4 rfl ?_
  refine j_sipush (v := (240 : Int32)) hc dX2_init_5 (by decide) ?_
  refine j_newI (n := 28) (N := 240) hc dX2_init_8 rfl (am_mem 165 ki_165 rfl) (by decide) (by decide) (am_IL_no rfl) (am_RL_ne rfl) (am_k8 hk0 (by decide) (by decide)) rfl ⟨by decide, by decide⟩ ?_
  refine j_putRF (t := 27) (j := 1) (u := 28) (ty := (.array .int)) hc dX2_init_10 ⟨2, 4, RX2, TX2, _, tyX2, rfl, clX2, inX2, (am_mem 279 ki_279 rfl), by decide, rfl, tyX2_ok, nmX2, by decide +kernel, rfl, fun _ => rfl⟩ rfl (fun _ => rfl) (fun _ => rfl) ?_
  rw [am_RL_put]
  refine j_aload_n hc dX2_init_13 rfl ?_
  refine j_iconst (v := (0 : Int32)) hc dX2_init_14 (by decide) ?_
  refine j_putId (t := 27) (j := 2) (ty := .int) hc dX2_init_15 ⟨2, 4, RX2, TX2, _, tyX2, rfl, clX2, inX2, (am_mem 281 ki_281 rfl), by decide, rfl, tyX2_ok, nmX2, by decide +kernel, rfl, fun h => Bool.noConfusion h⟩ rfl rfl ?_
  rw [am_IL_put]
  refine j_aload_n hc dX2_init_18 rfl ?_
  refine j_iconst (v := (0 : Int32)) hc dX2_init_19 (by decide) ?_
  refine j_putId (t := 27) (j := 3) (ty := .int) hc dX2_init_20 ⟨2, 4, RX2, TX2, _, tyX2, rfl, clX2, inX2, (am_mem 283 ki_283 rfl), by decide, rfl, tyX2_ok, nmX2, by decide +kernel, rfl, fun h => Bool.noConfusion h⟩ rfl rfl ?_
  rw [am_IL_put]
  refine j_aload_n hc dX2_init_23 rfl ?_
  refine j_aload_n hc dX2_init_24 rfl ?_
  refine j_putRF (t := 27) (j := 0) (u := 1) (ty := (.object "LastHome$Tape")) hc dX2_init_25 ⟨2, 4, RX2, TX2, _, tyX2, rfl, clX2, inX2, (am_mem 278 ki_278 rfl), by decide, rfl, tyX2_ok, nmX2, by decide +kernel, rfl, fun _ => rfl⟩ rfl (fun _ => rfl) (fun _ => rfl) ?_
  rw [am_RL_put]
  exact j_return hc dX2_init_28 rfl rfl rfl
set_option maxRecDepth 100000 in
set_option maxHeartbeats 8000000 in
theorem qiC_30_39 (l : Launch) (d : Nat) : am_CA l yX3_init cX3_init 1 none (d + 1) 9 1010 (fun k => k < 30 ∨ 1000000 ≤ k) [.ref 29] KIC_30 (am_RL RIC_31) (am_IL IIC_16) am_L0 (fun S => S = (none, KIC_39, am_RL RIC_40, am_IL IIC_18, am_L0)) := by
  refine am_introA (plainFor_of_name plX3) (fun _ h => Or.inr h) (Nat.le_of_ble_eq_true rfl) (fun x hl hc hk0 => ?_)
  subst hl
  refine j_sub (lv' := [some (.ref 29)]) ?_ (And.intro rfl (trivial))
  refine j_aload_n hc dX3_init_0 rfl ?_
  refine j_objInit hc dX3_init_1 (am_mem 298 ki_298 rfl) ⟨(am_mem 147 ki_147 rfl), am_mem 148 ki_148 rfl⟩ (by omega) (Nat.le_of_ble_eq_true rfl) ?_
  refine j_aload_n hc dX3_init_4 rfl ?_
  refine j_iconst (v := (4 : Int32)) hc dX3_init_5 (by decide) ?_
  refine j_sipush (v := (240 : Int32)) hc dX3_init_6 (by decide) ?_
  refine j_mna (n := 30) hc dX3_init_9 rfl (am_mem 299 ki_299 rfl) (am_mem 165 ki_165 rfl) (fun k hk => am_IL_big hk rfl) rfl (am_k9 hk0 (by decide)) (by decide) rfl ⟨by decide, by decide⟩ ?_
  refine j_putRF (t := 29) (j := 0) (u := 30) (ty := (.array (.array .int))) hc dX3_init_13 ⟨3, 7, RX3, TX3, _, tyX3, rfl, clX3, inX3, (am_mem 301 ki_301 rfl), by decide, rfl, tyX3_ok, nmX3, by decide +kernel, rfl, fun _ => rfl⟩ rfl (fun _ => rfl) (fun _ => rfl) ?_
  rw [am_RL_put]
  refine j_aload_n hc dX3_init_16 rfl ?_
  refine j_iconst (v := (4 : Int32)) hc dX3_init_17 (by decide) ?_
  refine j_newI (n := 35) (N := 4) hc dX3_init_18 rfl (am_mem 165 ki_165 rfl) (by decide) (by decide) (am_IL_no rfl) (am_RL_ne rfl) (am_k8 hk0 (by decide) (by decide)) rfl ⟨by decide, by decide⟩ ?_
  refine j_putRF (t := 29) (j := 1) (u := 35) (ty := (.array .int)) hc dX3_init_20 ⟨3, 7, RX3, TX3, _, tyX3, rfl, clX3, inX3, (am_mem 302 ki_302 rfl), by decide, rfl, tyX3_ok, nmX3, by decide +kernel, rfl, fun _ => rfl⟩ rfl (fun _ => rfl) (fun _ => rfl) ?_
  rw [am_RL_put]
  refine j_aload_n hc dX3_init_23 rfl ?_
  refine j_bipush (v := (32 : Int32)) hc dX3_init_24 (by decide) ?_
  refine j_newI (n := 36) (N := 32) hc dX3_init_26 rfl (am_mem 165 ki_165 rfl) (by decide) (by decide) (am_IL_no rfl) (am_RL_ne rfl) (am_k8 hk0 (by decide) (by decide)) rfl ⟨by decide, by decide⟩ ?_
  refine j_putRF (t := 29) (j := 2) (u := 36) (ty := (.array .int)) hc dX3_init_28 ⟨3, 7, RX3, TX3, _, tyX3, rfl, clX3, inX3, (am_mem 303 ki_303 rfl), by decide, rfl, tyX3_ok, nmX3, by decide +kernel, rfl, fun _ => rfl⟩ rfl (fun _ => rfl) (fun _ => rfl) ?_
  rw [am_RL_put]
  refine j_aload_n hc dX3_init_31 rfl ?_
  refine j_bipush (v := (6 : Int32)) hc dX3_init_32 (by decide) ?_
  refine j_newI (n := 37) (N := 6) hc dX3_init_34 rfl (am_mem 165 ki_165 rfl) (by decide) (by decide) (am_IL_no rfl) (am_RL_ne rfl) (am_k8 hk0 (by decide) (by decide)) rfl ⟨by decide, by decide⟩ ?_
  refine j_putRF (t := 29) (j := 3) (u := 37) (ty := (.array .int)) hc dX3_init_36 ⟨3, 7, RX3, TX3, _, tyX3, rfl, clX3, inX3, (am_mem 304 ki_304 rfl), by decide, rfl, tyX3_ok, nmX3, by decide +kernel, rfl, fun _ => rfl⟩ rfl (fun _ => rfl) (fun _ => rfl) ?_
  rw [am_RL_put]
  refine j_aload_n hc dX3_init_39 rfl ?_
  refine j_iconst (v := (4 : Int32)) hc dX3_init_40 (by decide) ?_
  refine j_newI (n := 38) (N := 4) hc dX3_init_41 rfl (am_mem 165 ki_165 rfl) (by decide) (by decide) (am_IL_no rfl) (am_RL_ne rfl) (am_k8 hk0 (by decide) (by decide)) rfl ⟨by decide, by decide⟩ ?_
  refine j_putRF (t := 29) (j := 4) (u := 38) (ty := (.array .int)) hc dX3_init_43 ⟨3, 7, RX3, TX3, _, tyX3, rfl, clX3, inX3, (am_mem 306 ki_306 rfl), by decide, rfl, tyX3_ok, nmX3, by decide +kernel, rfl, fun _ => rfl⟩ rfl (fun _ => rfl) (fun _ => rfl) ?_
  rw [am_RL_put]
  refine j_aload_n hc dX3_init_46 rfl ?_
  refine j_iconst (v := (0 : Int32)) hc dX3_init_47 (by decide) ?_
  refine j_putId (t := 29) (j := 5) (ty := .int) hc dX3_init_48 ⟨3, 7, RX3, TX3, _, tyX3, rfl, clX3, inX3, (am_mem 308 ki_308 rfl), by decide, rfl, tyX3_ok, nmX3, by decide +kernel, rfl, fun h => Bool.noConfusion h⟩ rfl rfl ?_
  rw [am_IL_put]
  refine j_aload_n hc dX3_init_51 rfl ?_
  refine j_iconst (v := (-1 : Int32)) hc dX3_init_52 (by decide) ?_
  refine j_putId (t := 29) (j := 6) (ty := .int) hc dX3_init_53 ⟨3, 7, RX3, TX3, _, tyX3, rfl, clX3, inX3, (am_mem 310 ki_310 rfl), by decide, rfl, tyX3_ok, nmX3, by decide +kernel, rfl, fun h => Bool.noConfusion h⟩ rfl rfl ?_
  rw [am_IL_put]
  exact j_return hc dX3_init_56 rfl rfl rfl
set_option maxRecDepth 100000 in
set_option maxHeartbeats 8000000 in
theorem qiC_40_42 (l : Launch) (d : Nat) : am_CA l yX7_init cX7_init 3 none (d + 1) 2 16 (fun k => k < 40 ∨ 1000000 ≤ k) [.ref 39, .ref 3, .ref 29] KIC_40 (am_RL RIC_41) (am_IL IIC_18) am_L0 (fun S => S = (none, KIC_42, am_RL RIC_45, am_IL IIC_21, am_L0)) := by
  refine am_introA (plainFor_of_name plX7) (fun _ h => Or.inr h) (Nat.le_of_ble_eq_true rfl) (fun x hl hc hk0 => ?_)
  subst hl
  refine j_sub (lv' := [some (.ref 39), some (.ref 3), some (.ref 29)]) ?_ (And.intro rfl (And.intro rfl (And.intro rfl (trivial))))
  refine j_aload_n hc dX7_init_0 rfl ?_
  refine j_objInit hc dX7_init_1 (am_mem 333 ki_333 rfl) ⟨(am_mem 147 ki_147 rfl), am_mem 148 ki_148 rfl⟩ (by omega) (Nat.le_of_ble_eq_true rfl) ?_
  refine j_aload_n hc dX7_init_4 rfl ?_
  refine j_bipush (v := (8 : Int32)) hc dX7_init_5 (by decide) ?_
  refine j_newI (n := 40) (N := 8) hc dX7_init_7 rfl (am_mem 165 ki_165 rfl) (by decide) (by decide) (am_IL_no rfl) (am_RL_ne rfl) (am_k8 hk0 (by decide) (by decide)) rfl ⟨by decide, by decide⟩ ?_
  refine j_putRF (t := 39) (j := 2) (u := 40) (ty := (.array .int)) hc dX7_init_9 ⟨7, 7, RX7, TX7, _, tyX7, rfl, clX7, inX7, (am_mem 336 ki_336 rfl), by decide, rfl, tyX7_ok, nmX7, by decide +kernel, rfl, fun _ => rfl⟩ rfl (fun _ => rfl) (fun _ => rfl) ?_
  rw [am_RL_put]
  refine j_aload_n hc dX7_init_12 rfl ?_
  refine j_bipush (v := (8 : Int32)) hc dX7_init_13 (by decide) ?_
  refine j_newI (n := 41) (N := 8) hc dX7_init_15 rfl (am_mem 165 ki_165 rfl) (by decide) (by decide) (am_IL_no rfl) (am_RL_ne rfl) (am_k8 hk0 (by decide) (by decide)) rfl ⟨by decide, by decide⟩ ?_
  refine j_putRF (t := 39) (j := 3) (u := 41) (ty := (.array .int)) hc dX7_init_17 ⟨7, 7, RX7, TX7, _, tyX7, rfl, clX7, inX7, (am_mem 339 ki_339 rfl), by decide, rfl, tyX7_ok, nmX7, by decide +kernel, rfl, fun _ => rfl⟩ rfl (fun _ => rfl) (fun _ => rfl) ?_
  rw [am_RL_put]
  refine j_aload_n hc dX7_init_20 rfl ?_
  refine j_iconst (v := (0 : Int32)) hc dX7_init_21 (by decide) ?_
  refine j_putId (t := 39) (j := 4) (ty := .int) hc dX7_init_22 ⟨7, 7, RX7, TX7, _, tyX7, rfl, clX7, inX7, (am_mem 341 ki_341 rfl), by decide, rfl, tyX7_ok, nmX7, by decide +kernel, rfl, fun h => Bool.noConfusion h⟩ rfl rfl ?_
  rw [am_IL_put]
  refine j_aload_n hc dX7_init_25 rfl ?_
  refine j_iconst (v := (0 : Int32)) hc dX7_init_26 (by decide) ?_
  refine j_putId (t := 39) (j := 5) (ty := .int) hc dX7_init_27 ⟨7, 7, RX7, TX7, _, tyX7, rfl, clX7, inX7, (am_mem 343 ki_343 rfl), by decide, rfl, tyX7_ok, nmX7, by decide +kernel, rfl, fun h => Bool.noConfusion h⟩ rfl rfl ?_
  rw [am_IL_put]
  refine j_aload_n hc dX7_init_30 rfl ?_
  refine j_iconst (v := (0 : Int32)) hc dX7_init_31 (by decide) ?_
  refine j_putId (t := 39) (j := 6) (ty := .int) hc dX7_init_32 ⟨7, 7, RX7, TX7, _, tyX7, rfl, clX7, inX7, (am_mem 346 ki_346 rfl), by decide, rfl, tyX7_ok, nmX7, by decide +kernel, rfl, fun h => Bool.noConfusion h⟩ rfl rfl ?_
  rw [am_IL_put]
  refine j_aload_n hc dX7_init_35 rfl ?_
  refine j_aload_n hc dX7_init_36 rfl ?_
  refine j_putRF (t := 39) (j := 0) (u := 3) (ty := (.object "LastHome$War")) hc dX7_init_37 ⟨7, 7, RX7, TX7, _, tyX7, rfl, clX7, inX7, (am_mem 334 ki_334 rfl), by decide, rfl, tyX7_ok, nmX7, by decide +kernel, rfl, fun _ => rfl⟩ rfl (fun _ => rfl) (fun _ => rfl) ?_
  rw [am_RL_put]
  refine j_aload_n hc dX7_init_40 rfl ?_
  refine j_aload_n hc dX7_init_41 rfl ?_
  refine j_putRF (t := 39) (j := 1) (u := 29) (ty := (.object "LastHome$Laws")) hc dX7_init_42 ⟨7, 7, RX7, TX7, _, tyX7, rfl, clX7, inX7, (am_mem 335 ki_335 rfl), by decide, rfl, tyX7_ok, nmX7, by decide +kernel, rfl, fun _ => rfl⟩ rfl (fun _ => rfl) (fun _ => rfl) ?_
  rw [am_RL_put]
  exact j_return hc dX7_init_45 rfl rfl rfl
set_option maxRecDepth 100000 in
set_option maxHeartbeats 8000000 in
theorem qiC_43_45 (l : Launch) (d : Nat) : am_CA l yX5_init cX5_init 1 none (d + 1) 2 480 (fun k => k < 43 ∨ 1000000 ≤ k) [.ref 42] KIC_43 (am_RL RIC_46) (am_IL IIC_21) am_L0 (fun S => S = (none, KIC_45, am_RL RIC_48, am_IL IIC_23, am_L0)) := by
  refine am_introA (plainFor_of_name plX5) (fun _ h => Or.inr h) (Nat.le_of_ble_eq_true rfl) (fun x hl hc hk0 => ?_)
  subst hl
  refine j_sub (lv' := [some (.ref 42)]) ?_ (And.intro rfl (trivial))
  refine j_aload_n hc dX5_init_0 rfl ?_
  refine j_objInit hc dX5_init_1 (am_mem 368 ki_368 rfl) ⟨(am_mem 147 ki_147 rfl), am_mem 148 ki_148 rfl⟩ (by omega) (Nat.le_of_ble_eq_true rfl) ?_
  refine j_aload_n hc dX5_init_4 rfl ?_
  refine j_sipush (v := (420 : Int32)) hc dX5_init_5 (by decide) ?_
  refine j_newI (n := 43) (N := 420) hc dX5_init_8 rfl (am_mem 165 ki_165 rfl) (by decide) (by decide) (am_IL_no rfl) (am_RL_ne rfl) (am_k8 hk0 (by decide) (by decide)) rfl ⟨by decide, by decide⟩ ?_
  refine j_putRF (t := 42) (j := 0) (u := 43) (ty := (.array .int)) hc dX5_init_10 ⟨5, 4, RX5, TX5, _, tyX5, rfl, clX5, inX5, (am_mem 369 ki_369 rfl), by decide, rfl, tyX5_ok, nmX5, by decide +kernel, rfl, fun _ => rfl⟩ rfl (fun _ => rfl) (fun _ => rfl) ?_
  rw [am_RL_put]
  refine j_aload_n hc dX5_init_13 rfl ?_
  refine j_bipush (v := (60 : Int32)) hc dX5_init_14 (by decide) ?_
  refine j_newI (n := 44) (N := 60) hc dX5_init_16 rfl (am_mem 165 ki_165 rfl) (by decide) (by decide) (am_IL_no rfl) (am_RL_ne rfl) (am_k8 hk0 (by decide) (by decide)) rfl ⟨by decide, by decide⟩ ?_
  refine j_putRF (t := 42) (j := 1) (u := 44) (ty := (.array .int)) hc dX5_init_18 ⟨5, 4, RX5, TX5, _, tyX5, rfl, clX5, inX5, (am_mem 370 ki_370 rfl), by decide, rfl, tyX5_ok, nmX5, by decide +kernel, rfl, fun _ => rfl⟩ rfl (fun _ => rfl) (fun _ => rfl) ?_
  rw [am_RL_put]
  refine j_aload_n hc dX5_init_21 rfl ?_
  refine j_iconst (v := (0 : Int32)) hc dX5_init_22 (by decide) ?_
  refine j_putId (t := 42) (j := 2) (ty := .int) hc dX5_init_23 ⟨5, 4, RX5, TX5, _, tyX5, rfl, clX5, inX5, (am_mem 371 ki_371 rfl), by decide, rfl, tyX5_ok, nmX5, by decide +kernel, rfl, fun h => Bool.noConfusion h⟩ rfl rfl ?_
  rw [am_IL_put]
  refine j_aload_n hc dX5_init_26 rfl ?_
  refine j_iconst (v := (0 : Int32)) hc dX5_init_27 (by decide) ?_
  refine j_putId (t := 42) (j := 3) (ty := .int) hc dX5_init_28 ⟨5, 4, RX5, TX5, _, tyX5, rfl, clX5, inX5, (am_mem 372 ki_372 rfl), by decide, rfl, tyX5_ok, nmX5, by decide +kernel, rfl, fun h => Bool.noConfusion h⟩ rfl rfl ?_
  rw [am_IL_put]
  exact j_return hc dX5_init_31 rfl rfl rfl
set_option maxRecDepth 100000 in
set_option maxHeartbeats 8000000 in
theorem qiC_46_51 (l : Launch) (d : Nat) : am_CA l yX6_init cX6_init 1 none (d + 1) 5 204 (fun k => k < 46 ∨ 1000000 ≤ k) [.ref 45] KIC_46 (am_RL RIC_49) (am_IL IIC_23) am_L0 (fun S => S = (none, KIC_51, am_RL RIC_54, am_IL IIC_26, am_L0)) := by
  refine am_introA (plainFor_of_name plX6) (fun _ h => Or.inr h) (Nat.le_of_ble_eq_true rfl) (fun x hl hc hk0 => ?_)
  subst hl
  refine j_sub (lv' := [some (.ref 45)]) ?_ (And.intro rfl (trivial))
  refine j_aload_n hc dX6_init_0 rfl ?_
  refine j_objInit hc dX6_init_1 (am_mem 388 ki_388 rfl) ⟨(am_mem 147 ki_147 rfl), am_mem 148 ki_148 rfl⟩ (by omega) (Nat.le_of_ble_eq_true rfl) ?_
  refine j_aload_n hc dX6_init_4 rfl ?_
  refine j_bipush (v := (41 : Int32)) hc dX6_init_5 (by decide) ?_
  refine j_newL (n := 46) (N := 41) hc dX6_init_7 rfl (am_mem 416 ki_416 rfl) (by decide) (by decide) rfl (am_RL_ne rfl) (am_k8 hk0 (by decide) (by decide)) rfl ⟨by decide, by decide⟩ ?_
  refine j_putRF (t := 45) (j := 0) (u := 46) (ty := (.array .long)) hc dX6_init_9 ⟨6, 8, RX6, TX6, _, tyX6, rfl, clX6, inX6, (am_mem 389 ki_389 rfl), by decide, rfl, tyX6_ok, nmX6, by decide +kernel, rfl, fun _ => rfl⟩ rfl (fun _ => rfl) (fun _ => rfl) ?_
  rw [am_RL_put]
  refine j_aload_n hc dX6_init_12 rfl ?_
  refine j_bipush (v := (41 : Int32)) hc dX6_init_13 (by decide) ?_
  refine j_newL (n := 47) (N := 41) hc dX6_init_15 rfl (am_mem 416 ki_416 rfl) (by decide) (by decide) rfl (am_RL_ne rfl) (am_k8 hk0 (by decide) (by decide)) rfl ⟨by decide, by decide⟩ ?_
  refine j_putRF (t := 45) (j := 1) (u := 47) (ty := (.array .long)) hc dX6_init_17 ⟨6, 8, RX6, TX6, _, tyX6, rfl, clX6, inX6, (am_mem 390 ki_390 rfl), by decide, rfl, tyX6_ok, nmX6, by decide +kernel, rfl, fun _ => rfl⟩ rfl (fun _ => rfl) (fun _ => rfl) ?_
  rw [am_RL_put]
  refine j_aload_n hc dX6_init_20 rfl ?_
  refine j_bipush (v := (41 : Int32)) hc dX6_init_21 (by decide) ?_
  refine j_newI (n := 48) (N := 41) hc dX6_init_23 rfl (am_mem 165 ki_165 rfl) (by decide) (by decide) (am_IL_no rfl) (am_RL_ne rfl) (am_k8 hk0 (by decide) (by decide)) rfl ⟨by decide, by decide⟩ ?_
  refine j_putRF (t := 45) (j := 2) (u := 48) (ty := (.array .int)) hc dX6_init_25 ⟨6, 8, RX6, TX6, _, tyX6, rfl, clX6, inX6, (am_mem 391 ki_391 rfl), by decide, rfl, tyX6_ok, nmX6, by decide +kernel, rfl, fun _ => rfl⟩ rfl (fun _ => rfl) (fun _ => rfl) ?_
  rw [am_RL_put]
  refine j_aload_n hc dX6_init_28 rfl ?_
  refine j_bipush (v := (41 : Int32)) hc dX6_init_29 (by decide) ?_
  refine j_newI (n := 49) (N := 41) hc dX6_init_31 rfl (am_mem 165 ki_165 rfl) (by decide) (by decide) (am_IL_no rfl) (am_RL_ne rfl) (am_k8 hk0 (by decide) (by decide)) rfl ⟨by decide, by decide⟩ ?_
  refine j_putRF (t := 45) (j := 3) (u := 49) (ty := (.array .int)) hc dX6_init_33 ⟨6, 8, RX6, TX6, _, tyX6, rfl, clX6, inX6, (am_mem 392 ki_392 rfl), by decide, rfl, tyX6_ok, nmX6, by decide +kernel, rfl, fun _ => rfl⟩ rfl (fun _ => rfl) (fun _ => rfl) ?_
  rw [am_RL_put]
  refine j_aload_n hc dX6_init_36 rfl ?_
  refine j_bipush (v := (40 : Int32)) hc dX6_init_37 (by decide) ?_
  refine j_newI (n := 50) (N := 40) hc dX6_init_39 rfl (am_mem 165 ki_165 rfl) (by decide) (by decide) (am_IL_no rfl) (am_RL_ne rfl) (am_k8 hk0 (by decide) (by decide)) rfl ⟨by decide, by decide⟩ ?_
  refine j_putRF (t := 45) (j := 4) (u := 50) (ty := (.array .int)) hc dX6_init_41 ⟨6, 8, RX6, TX6, _, tyX6, rfl, clX6, inX6, (am_mem 393 ki_393 rfl), by decide, rfl, tyX6_ok, nmX6, by decide +kernel, rfl, fun _ => rfl⟩ rfl (fun _ => rfl) (fun _ => rfl) ?_
  rw [am_RL_put]
  refine j_aload_n hc dX6_init_44 rfl ?_
  refine j_iconst (v := (0 : Int32)) hc dX6_init_45 (by decide) ?_
  refine j_putId (t := 45) (j := 5) (ty := .int) hc dX6_init_46 ⟨6, 8, RX6, TX6, _, tyX6, rfl, clX6, inX6, (am_mem 394 ki_394 rfl), by decide, rfl, tyX6_ok, nmX6, by decide +kernel, rfl, fun h => Bool.noConfusion h⟩ rfl rfl ?_
  rw [am_IL_put]
  refine j_aload_n hc dX6_init_49 rfl ?_
  refine j_iconst (v := (0 : Int32)) hc dX6_init_50 (by decide) ?_
  refine j_putId (t := 45) (j := 6) (ty := .int) hc dX6_init_51 ⟨6, 8, RX6, TX6, _, tyX6, rfl, clX6, inX6, (am_mem 395 ki_395 rfl), by decide, rfl, tyX6_ok, nmX6, by decide +kernel, rfl, fun h => Bool.noConfusion h⟩ rfl rfl ?_
  rw [am_IL_put]
  refine j_aload_n hc dX6_init_54 rfl ?_
  refine j_iconst (v := (0 : Int32)) hc dX6_init_55 (by decide) ?_
  refine j_putId (t := 45) (j := 7) (ty := .boolean) hc dX6_init_56 ⟨6, 8, RX6, TX6, _, tyX6, rfl, clX6, inX6, (am_mem 397 ki_397 rfl), by decide, rfl, tyX6_ok, nmX6, by decide +kernel, rfl, fun h => Bool.noConfusion h⟩ rfl rfl ?_
  rw [am_IL_put]
  exact j_return hc dX6_init_59 rfl rfl rfl
set_option maxRecDepth 100000 in
set_option maxHeartbeats 8000000 in
theorem qiC_52_58 (l : Launch) (d : Nat) : am_CA l yX0_init cX0_init 1 none (d + 1) 6 342 (fun k => k < 52 ∨ 1000000 ≤ k) [.ref 51] KIC_52 (am_RL RIC_55) (am_IL IIC_26) am_L0 (fun S => S = (none, KIC_58, am_RL RIC_61, am_IL IIC_30, am_L0)) := by
  refine am_introA (plainFor_of_name plX0) (fun _ h => Or.inr h) (Nat.le_of_ble_eq_true rfl) (fun x hl hc hk0 => ?_)
  subst hl
  refine j_sub (lv' := [some (.ref 51)]) ?_ (And.intro rfl (trivial))
  refine j_aload_n hc dX0_init_0 rfl ?_
  refine j_objInit hc dX0_init_1 (am_mem 422 ki_422 rfl) ⟨(am_mem 147 ki_147 rfl), am_mem 148 ki_148 rfl⟩ (by omega) (Nat.le_of_ble_eq_true rfl) ?_
  refine j_aload_n hc dX0_init_4 rfl ?_
  refine j_bipush (v := (21 : Int32)) hc dX0_init_5 (by decide) ?_
  refine j_newI (n := 52) (N := 21) hc dX0_init_7 rfl (am_mem 165 ki_165 rfl) (by decide) (by decide) (am_IL_no rfl) (am_RL_ne rfl) (am_k8 hk0 (by decide) (by decide)) rfl ⟨by decide, by decide⟩ ?_
  refine j_putRF (t := 51) (j := 0) (u := 52) (ty := (.array .int)) hc dX0_init_9 ⟨0, 12, RX0, TX0, _, tyX0, rfl, clX0, inX0, (am_mem 423 ki_423 rfl), by decide, rfl, tyX0_ok, nmX0, by decide +kernel, rfl, fun _ => rfl⟩ rfl (fun _ => rfl) (fun _ => rfl) ?_
  rw [am_RL_put]
  refine j_aload_n hc dX0_init_12 rfl ?_
  refine j_bipush (v := (21 : Int32)) hc dX0_init_13 (by decide) ?_
  refine j_newI (n := 53) (N := 21) hc dX0_init_15 rfl (am_mem 165 ki_165 rfl) (by decide) (by decide) (am_IL_no rfl) (am_RL_ne rfl) (am_k8 hk0 (by decide) (by decide)) rfl ⟨by decide, by decide⟩ ?_
  refine j_putRF (t := 51) (j := 1) (u := 53) (ty := (.array .int)) hc dX0_init_17 ⟨0, 12, RX0, TX0, _, tyX0, rfl, clX0, inX0, (am_mem 424 ki_424 rfl), by decide, rfl, tyX0_ok, nmX0, by decide +kernel, rfl, fun _ => rfl⟩ rfl (fun _ => rfl) (fun _ => rfl) ?_
  rw [am_RL_put]
  refine j_aload_n hc dX0_init_20 rfl ?_
  refine j_bipush (v := (75 : Int32)) hc dX0_init_21 (by decide) ?_
  refine j_newI (n := 54) (N := 75) hc dX0_init_23 rfl (am_mem 165 ki_165 rfl) (by decide) (by decide) (am_IL_no rfl) (am_RL_ne rfl) (am_k8 hk0 (by decide) (by decide)) rfl ⟨by decide, by decide⟩ ?_
  refine j_putRF (t := 51) (j := 2) (u := 54) (ty := (.array .int)) hc dX0_init_25 ⟨0, 12, RX0, TX0, _, tyX0, rfl, clX0, inX0, (am_mem 425 ki_425 rfl), by decide, rfl, tyX0_ok, nmX0, by decide +kernel, rfl, fun _ => rfl⟩ rfl (fun _ => rfl) (fun _ => rfl) ?_
  rw [am_RL_put]
  refine j_aload_n hc dX0_init_28 rfl ?_
  refine j_bipush (v := (75 : Int32)) hc dX0_init_29 (by decide) ?_
  refine j_newI (n := 55) (N := 75) hc dX0_init_31 rfl (am_mem 165 ki_165 rfl) (by decide) (by decide) (am_IL_no rfl) (am_RL_ne rfl) (am_k8 hk0 (by decide) (by decide)) rfl ⟨by decide, by decide⟩ ?_
  refine j_putRF (t := 51) (j := 3) (u := 55) (ty := (.array .int)) hc dX0_init_33 ⟨0, 12, RX0, TX0, _, tyX0, rfl, clX0, inX0, (am_mem 426 ki_426 rfl), by decide, rfl, tyX0_ok, nmX0, by decide +kernel, rfl, fun _ => rfl⟩ rfl (fun _ => rfl) (fun _ => rfl) ?_
  rw [am_RL_put]
  refine j_aload_n hc dX0_init_36 rfl ?_
  refine j_bipush (v := (75 : Int32)) hc dX0_init_37 (by decide) ?_
  refine j_newI (n := 56) (N := 75) hc dX0_init_39 rfl (am_mem 165 ki_165 rfl) (by decide) (by decide) (am_IL_no rfl) (am_RL_ne rfl) (am_k8 hk0 (by decide) (by decide)) rfl ⟨by decide, by decide⟩ ?_
  refine j_putRF (t := 51) (j := 4) (u := 56) (ty := (.array .int)) hc dX0_init_41 ⟨0, 12, RX0, TX0, _, tyX0, rfl, clX0, inX0, (am_mem 427 ki_427 rfl), by decide, rfl, tyX0_ok, nmX0, by decide +kernel, rfl, fun _ => rfl⟩ rfl (fun _ => rfl) (fun _ => rfl) ?_
  rw [am_RL_put]
  refine j_aload_n hc dX0_init_44 rfl ?_
  refine j_bipush (v := (75 : Int32)) hc dX0_init_45 (by decide) ?_
  refine j_newI (n := 57) (N := 75) hc dX0_init_47 rfl (am_mem 165 ki_165 rfl) (by decide) (by decide) (am_IL_no rfl) (am_RL_ne rfl) (am_k8 hk0 (by decide) (by decide)) rfl ⟨by decide, by decide⟩ ?_
  refine j_putRF (t := 51) (j := 5) (u := 57) (ty := (.array .int)) hc dX0_init_49 ⟨0, 12, RX0, TX0, _, tyX0, rfl, clX0, inX0, (am_mem 428 ki_428 rfl), by decide, rfl, tyX0_ok, nmX0, by decide +kernel, rfl, fun _ => rfl⟩ rfl (fun _ => rfl) (fun _ => rfl) ?_
  rw [am_RL_put]
  refine j_aload_n hc dX0_init_52 rfl ?_
  refine j_null hc dX0_init_53 ?_
  refine j_putRN (t := 51) (j := 6) (ty := (.array .int)) hc dX0_init_54 ⟨0, 12, RX0, TX0, _, tyX0, rfl, clX0, inX0, (am_mem 429 ki_429 rfl), by decide, rfl, tyX0_ok, nmX0, by decide +kernel, rfl, fun h => Bool.noConfusion h⟩ rfl rfl ?_
  rw [am_RL_nul _ _ _ rfl]
  refine j_aload_n hc dX0_init_57 rfl ?_
  refine j_null hc dX0_init_58 ?_
  refine j_putRN (t := 51) (j := 7) (ty := (.array .int)) hc dX0_init_59 ⟨0, 12, RX0, TX0, _, tyX0, rfl, clX0, inX0, (am_mem 430 ki_430 rfl), by decide, rfl, tyX0_ok, nmX0, by decide +kernel, rfl, fun h => Bool.noConfusion h⟩ rfl rfl ?_
  rw [am_RL_nul _ _ _ rfl]
  refine j_aload_n hc dX0_init_62 rfl ?_
  refine j_iconst (v := (0 : Int32)) hc dX0_init_63 (by decide) ?_
  refine j_putId (t := 51) (j := 8) (ty := .int) hc dX0_init_64 ⟨0, 12, RX0, TX0, _, tyX0, rfl, clX0, inX0, (am_mem 431 ki_431 rfl), by decide, rfl, tyX0_ok, nmX0, by decide +kernel, rfl, fun h => Bool.noConfusion h⟩ rfl rfl ?_
  rw [am_IL_put]
  refine j_aload_n hc dX0_init_67 rfl ?_
  refine j_iconst (v := (0 : Int32)) hc dX0_init_68 (by decide) ?_
  refine j_putId (t := 51) (j := 9) (ty := .int) hc dX0_init_69 ⟨0, 12, RX0, TX0, _, tyX0, rfl, clX0, inX0, (am_mem 432 ki_432 rfl), by decide, rfl, tyX0_ok, nmX0, by decide +kernel, rfl, fun h => Bool.noConfusion h⟩ rfl rfl ?_
  rw [am_IL_put]
  refine j_aload_n hc dX0_init_72 rfl ?_
  refine j_iconst (v := (0 : Int32)) hc dX0_init_73 (by decide) ?_
  refine j_putId (t := 51) (j := 10) (ty := .int) hc dX0_init_74 ⟨0, 12, RX0, TX0, _, tyX0, rfl, clX0, inX0, (am_mem 433 ki_433 rfl), by decide, rfl, tyX0_ok, nmX0, by decide +kernel, rfl, fun h => Bool.noConfusion h⟩ rfl rfl ?_
  rw [am_IL_put]
  refine j_aload_n hc dX0_init_77 rfl ?_
  refine j_iconst (v := (0 : Int32)) hc dX0_init_78 (by decide) ?_
  refine j_putId (t := 51) (j := 11) (ty := .int) hc dX0_init_79 ⟨0, 12, RX0, TX0, _, tyX0, rfl, clX0, inX0, (am_mem 434 ki_434 rfl), by decide, rfl, tyX0_ok, nmX0, by decide +kernel, rfl, fun h => Bool.noConfusion h⟩ rfl rfl ?_
  rw [am_IL_put]
  exact j_return hc dX0_init_82 rfl rfl rfl
set_option maxRecDepth 100000 in
set_option maxHeartbeats 8000000 in
theorem qiC_59_60 (l : Launch) (d : Nat) : am_CA l yX1_init cX1_init 3 none (d + 1) 1 8 (fun k => k < 59 ∨ 1000000 ≤ k) [.ref 58, .ref 3, .ref 39] KIC_59 (am_RL RIC_62) (am_IL IIC_30) am_L0 (fun S => S = (none, KIC_60, am_RL RIC_65, am_IL IIC_31, am_L0)) := by
  refine am_introA (plainFor_of_name plX1) (fun _ h => Or.inr h) (Nat.le_of_ble_eq_true rfl) (fun x hl hc hk0 => ?_)
  subst hl
  refine j_sub (lv' := [some (.ref 58), some (.ref 3), some (.ref 39)]) ?_ (And.intro rfl (And.intro rfl (And.intro rfl (trivial))))
  refine j_aload_n hc dX1_init_0 rfl ?_
  refine j_objInit hc dX1_init_1 (am_mem 465 ki_465 rfl) ⟨(am_mem 147 ki_147 rfl), am_mem 148 ki_148 rfl⟩ (by omega) (Nat.le_of_ble_eq_true rfl) ?_
  refine j_aload_n hc dX1_init_4 rfl ?_
  refine j_bipush (v := (8 : Int32)) hc dX1_init_5 (by decide) ?_
  refine j_newI (n := 59) (N := 8) hc dX1_init_7 rfl (am_mem 165 ki_165 rfl) (by decide) (by decide) (am_IL_no rfl) (am_RL_ne rfl) (am_k8 hk0 (by decide) (by decide)) rfl ⟨by decide, by decide⟩ ?_
  refine j_putRF (t := 58) (j := 2) (u := 59) (ty := (.array .int)) hc dX1_init_9 ⟨1, 4, RX1, TX1, _, tyX1, rfl, clX1, inX1, (am_mem 468 ki_468 rfl), by decide, rfl, tyX1_ok, nmX1, by decide +kernel, rfl, fun _ => rfl⟩ rfl (fun _ => rfl) (fun _ => rfl) ?_
  rw [am_RL_put]
  refine j_aload_n hc dX1_init_12 rfl ?_
  refine j_iconst (v := (0 : Int32)) hc dX1_init_13 (by decide) ?_
  refine j_putId (t := 58) (j := 3) (ty := .int) hc dX1_init_14 ⟨1, 4, RX1, TX1, _, tyX1, rfl, clX1, inX1, (am_mem 469 ki_469 rfl), by decide, rfl, tyX1_ok, nmX1, by decide +kernel, rfl, fun h => Bool.noConfusion h⟩ rfl rfl ?_
  rw [am_IL_put]
  refine j_aload_n hc dX1_init_17 rfl ?_
  refine j_aload_n hc dX1_init_18 rfl ?_
  refine j_putRF (t := 58) (j := 0) (u := 3) (ty := (.object "LastHome$War")) hc dX1_init_19 ⟨1, 4, RX1, TX1, _, tyX1, rfl, clX1, inX1, (am_mem 466 ki_466 rfl), by decide, rfl, tyX1_ok, nmX1, by decide +kernel, rfl, fun _ => rfl⟩ rfl (fun _ => rfl) (fun _ => rfl) ?_
  rw [am_RL_put]
  refine j_aload_n hc dX1_init_22 rfl ?_
  refine j_aload_n hc dX1_init_23 rfl ?_
  refine j_putRF (t := 58) (j := 1) (u := 39) (ty := (.object "LastHome$Road")) hc dX1_init_24 ⟨1, 4, RX1, TX1, _, tyX1, rfl, clX1, inX1, (am_mem 467 ki_467 rfl), by decide, rfl, tyX1_ok, nmX1, by decide +kernel, rfl, fun _ => rfl⟩ rfl (fun _ => rfl) (fun _ => rfl) ?_
  rw [am_RL_put]
  exact j_return hc dX1_init_27 rfl rfl rfl
set_option maxRecDepth 100000 in
set_option maxHeartbeats 8000000 in
theorem qiC_61_65 (l : Launch) (d : Nat) : am_CA l yX4_init cX4_init 1 none (d + 1) 4 107 (fun k => k < 61 ∨ 1000000 ≤ k) [.ref 60] KIC_61 (am_RL RIC_66) (am_IL IIC_31) am_L0 (fun S => S = (none, KIC_65, am_RL RIC_70, am_IL IIC_33, am_L0)) := by
  refine am_introA (plainFor_of_name plX4) (fun _ h => Or.inr h) (Nat.le_of_ble_eq_true rfl) (fun x hl hc hk0 => ?_)
  subst hl
  refine j_sub (lv' := [some (.ref 60)]) ?_ (And.intro rfl (trivial))
  refine j_aload_n hc dX4_init_0 rfl ?_
  refine j_objInit hc dX4_init_1 (am_mem 484 ki_484 rfl) ⟨(am_mem 147 ki_147 rfl), am_mem 148 ki_148 rfl⟩ (by omega) (Nat.le_of_ble_eq_true rfl) ?_
  refine j_aload_n hc dX4_init_4 rfl ?_
  refine j_bipush (v := (10 : Int32)) hc dX4_init_5 (by decide) ?_
  refine j_newI (n := 61) (N := 10) hc dX4_init_7 rfl (am_mem 165 ki_165 rfl) (by decide) (by decide) (am_IL_no rfl) (am_RL_ne rfl) (am_k8 hk0 (by decide) (by decide)) rfl ⟨by decide, by decide⟩ ?_
  refine j_putRF (t := 60) (j := 0) (u := 61) (ty := (.array .int)) hc dX4_init_9 ⟨4, 6, RX4, TX4, _, tyX4, rfl, clX4, inX4, (am_mem 485 ki_485 rfl), by decide, rfl, tyX4_ok, nmX4, by decide +kernel, rfl, fun _ => rfl⟩ rfl (fun _ => rfl) (fun _ => rfl) ?_
  rw [am_RL_put]
  refine j_aload_n hc dX4_init_12 rfl ?_
  refine j_bipush (v := (10 : Int32)) hc dX4_init_13 (by decide) ?_
  refine j_newI (n := 62) (N := 10) hc dX4_init_15 rfl (am_mem 165 ki_165 rfl) (by decide) (by decide) (am_IL_no rfl) (am_RL_ne rfl) (am_k8 hk0 (by decide) (by decide)) rfl ⟨by decide, by decide⟩ ?_
  refine j_putRF (t := 60) (j := 1) (u := 62) (ty := (.array .int)) hc dX4_init_17 ⟨4, 6, RX4, TX4, _, tyX4, rfl, clX4, inX4, (am_mem 486 ki_486 rfl), by decide, rfl, tyX4_ok, nmX4, by decide +kernel, rfl, fun _ => rfl⟩ rfl (fun _ => rfl) (fun _ => rfl) ?_
  rw [am_RL_put]
  refine j_aload_n hc dX4_init_20 rfl ?_
  refine j_iconst (v := (3 : Int32)) hc dX4_init_21 (by decide) ?_
  refine j_newI (n := 63) (N := 3) hc dX4_init_22 rfl (am_mem 165 ki_165 rfl) (by decide) (by decide) (am_IL_no rfl) (am_RL_ne rfl) (am_k8 hk0 (by decide) (by decide)) rfl ⟨by decide, by decide⟩ ?_
  refine j_putRF (t := 60) (j := 2) (u := 63) (ty := (.array .int)) hc dX4_init_24 ⟨4, 6, RX4, TX4, _, tyX4, rfl, clX4, inX4, (am_mem 487 ki_487 rfl), by decide, rfl, tyX4_ok, nmX4, by decide +kernel, rfl, fun _ => rfl⟩ rfl (fun _ => rfl) (fun _ => rfl) ?_
  rw [am_RL_put]
  refine j_aload_n hc dX4_init_27 rfl ?_
  refine j_bipush (v := (84 : Int32)) hc dX4_init_28 (by decide) ?_
  refine j_newI (n := 64) (N := 84) hc dX4_init_30 rfl (am_mem 165 ki_165 rfl) (by decide) (by decide) (am_IL_no rfl) (am_RL_ne rfl) (am_k8 hk0 (by decide) (by decide)) rfl ⟨by decide, by decide⟩ ?_
  refine j_putRF (t := 60) (j := 3) (u := 64) (ty := (.array .int)) hc dX4_init_32 ⟨4, 6, RX4, TX4, _, tyX4, rfl, clX4, inX4, (am_mem 488 ki_488 rfl), by decide, rfl, tyX4_ok, nmX4, by decide +kernel, rfl, fun _ => rfl⟩ rfl (fun _ => rfl) (fun _ => rfl) ?_
  rw [am_RL_put]
  refine j_aload_n hc dX4_init_35 rfl ?_
  refine j_iconst (v := (0 : Int32)) hc dX4_init_36 (by decide) ?_
  refine j_putId (t := 60) (j := 4) (ty := .int) hc dX4_init_37 ⟨4, 6, RX4, TX4, _, tyX4, rfl, clX4, inX4, (am_mem 489 ki_489 rfl), by decide, rfl, tyX4_ok, nmX4, by decide +kernel, rfl, fun h => Bool.noConfusion h⟩ rfl rfl ?_
  rw [am_IL_put]
  refine j_aload_n hc dX4_init_40 rfl ?_
  refine j_iconst (v := (0 : Int32)) hc dX4_init_41 (by decide) ?_
  refine j_putId (t := 60) (j := 5) (ty := .int) hc dX4_init_42 ⟨4, 6, RX4, TX4, _, tyX4, rfl, clX4, inX4, (am_mem 491 ki_491 rfl), by decide, rfl, tyX4_ok, nmX4, by decide +kernel, rfl, fun h => Bool.noConfusion h⟩ rfl rfl ?_
  rw [am_IL_put]
  exact j_return hc dX4_init_45 rfl rfl rfl
set_option maxRecDepth 100000 in
set_option maxHeartbeats 8000000 in
theorem qiC_1_67 (l : Launch) (d : Nat) : am_CA l yX11_init cX11_init 1 none (d + 2) 66 2942 (fun k => k < 1 ∨ 1000000 ≤ k) [.ref 0] KIC_1 (am_RL RIC_0) (am_IL IIC_0) am_L0 (fun S => S = (none, KIC_67, am_RL RIC_73, am_IL IIC_33, am_L0)) := by
  refine am_introA (plainFor_of_name plX11) (fun _ h => Or.inr h) (Nat.le_of_ble_eq_true rfl) (fun x hl hc hk0 => ?_)
  subst hl
  refine j_sub (lv' := [some (.ref 0)]) ?_ (And.intro rfl (trivial))
  refine j_aload_n hc dX11_init_0 rfl ?_
  refine j_objInit hc dX11_init_1 (am_mem 146 ki_146 rfl) ⟨(am_mem 147 ki_147 rfl), am_mem 148 ki_148 rfl⟩ (by omega) (Nat.le_of_ble_eq_true rfl) ?_
  refine j_aload_n hc dX11_init_4 rfl ?_
  refine j_new (n := 1) (ci := 8) (ts := [2, 0]) hc dX11_init_5 rfl clX8 inX8 tyX8_ok ⟨(am_mem 149 ki_149 rfl), (am_mem 150 ki_150 rfl), (am_mem 117 ki_117 rfl)⟩ (fun j hj a => by match j, hj with | 0, _ => rfl | 1, _ => rfl) (am_IL_no rfl) rfl (am_RL_no rfl) (am_RL_ne rfl) (am_k8 hk0 (by decide) (by decide)) rfl ⟨by decide, by decide⟩ ?_
  refine j_dup hc dX11_init_8 rfl ?_
  refine j_callI (host := RX11) (t := 1) (As := []) (n := 2) hc dX11_init_9 (Or.inr (List.mem_of_getElem? (i := 0) rfl)) ⟨am_mem 153 ki_153 rfl, (am_mem 152 ki_152 rfl), (am_mem 117 ki_117 rfl), rfl, by decide, by decide, by decide +kernel⟩ rfl rfl (am_k9 hk0 (by decide)) rfl (by omega) (Nat.le_of_ble_eq_true rfl) (Nat.le_of_ble_eq_true rfl) ⟨by decide, by decide⟩ (qiC_2_3 x.2.1 d) ?_
  refine j_putRF (t := 0) (j := 0) (u := 1) (ty := (.object "LastHome$Tape")) hc dX11_init_12 ⟨11, 15, RX11, TX11, _, tyX11, rfl, clX11, inX11, (am_mem 506 ki_506 rfl), by decide, rfl, tyX11_ok, nmX11, by decide +kernel, rfl, fun _ => rfl⟩ rfl (fun _ => rfl) (fun _ => rfl) ?_
  rw [am_RL_put]
  refine j_aload_n hc dX11_init_15 rfl ?_
  refine j_new (n := 3) (ci := 9) (ts := [0, 0, 0, 0, 0, 2, 2, 2, 2, 2, 2, 2, 2, 2, 2]) hc dX11_init_16 rfl clX9 inX9 tyX9_ok ⟨(am_mem 166 ki_166 rfl), (am_mem 167 ki_167 rfl), (am_mem 118 ki_118 rfl)⟩ (fun j hj a => by match j, hj with | 0, _ => rfl | 1, _ => rfl | 2, _ => rfl | 3, _ => rfl | 4, _ => rfl | 5, _ => rfl | 6, _ => rfl | 7, _ => rfl | 8, _ => rfl | 9, _ => rfl | 10, _ => rfl | 11, _ => rfl | 12, _ => rfl | 13, _ => rfl | 14, _ => rfl) (am_IL_no rfl) rfl (am_RL_no rfl) (am_RL_ne rfl) (am_k8 hk0 (by decide) (by decide)) rfl ⟨by decide, by decide⟩ ?_
  refine j_dup hc dX11_init_19 rfl ?_
  refine j_callI (host := RX11) (t := 3) (As := []) (n := 4) hc dX11_init_20 (Or.inr (List.mem_of_getElem? (i := 1) rfl)) ⟨am_mem 170 ki_170 rfl, (am_mem 169 ki_169 rfl), (am_mem 118 ki_118 rfl), rfl, by decide, by decide, by decide +kernel⟩ rfl rfl (am_k9 hk0 (by decide)) rfl (by omega) (Nat.le_of_ble_eq_true rfl) (Nat.le_of_ble_eq_true rfl) ⟨by decide, by decide⟩ (qiC_4_14 x.2.1 d) ?_
  refine j_putRF (t := 0) (j := 1) (u := 3) (ty := (.object "LastHome$War")) hc dX11_init_23 ⟨11, 15, RX11, TX11, _, tyX11, rfl, clX11, inX11, (am_mem 507 ki_507 rfl), by decide, rfl, tyX11_ok, nmX11, by decide +kernel, rfl, fun _ => rfl⟩ rfl (fun _ => rfl) (fun _ => rfl) ?_
  rw [am_RL_put]
  refine j_aload_n hc dX11_init_26 rfl ?_
  refine j_new (n := 14) (ci := 9) (ts := [0, 0, 0, 0, 0, 2, 2, 2, 2, 2, 2, 2, 2, 2, 2]) hc dX11_init_27 rfl clX9 inX9 tyX9_ok ⟨(am_mem 166 ki_166 rfl), (am_mem 167 ki_167 rfl), (am_mem 118 ki_118 rfl)⟩ (fun j hj a => by match j, hj with | 0, _ => rfl | 1, _ => rfl | 2, _ => rfl | 3, _ => rfl | 4, _ => rfl | 5, _ => rfl | 6, _ => rfl | 7, _ => rfl | 8, _ => rfl | 9, _ => rfl | 10, _ => rfl | 11, _ => rfl | 12, _ => rfl | 13, _ => rfl | 14, _ => rfl) (am_IL_no rfl) rfl (am_RL_no rfl) (am_RL_ne rfl) (am_k8 hk0 (by decide) (by decide)) rfl ⟨by decide, by decide⟩ ?_
  refine j_dup hc dX11_init_30 rfl ?_
  refine j_callI (host := RX11) (t := 14) (As := []) (n := 15) hc dX11_init_31 (Or.inr (List.mem_of_getElem? (i := 1) rfl)) ⟨am_mem 170 ki_170 rfl, (am_mem 169 ki_169 rfl), (am_mem 118 ki_118 rfl), rfl, by decide, by decide, by decide +kernel⟩ rfl rfl (am_k9 hk0 (by decide)) rfl (by omega) (Nat.le_of_ble_eq_true rfl) (Nat.le_of_ble_eq_true rfl) ⟨by decide, by decide⟩ (qiC_15_25 x.2.1 d) ?_
  refine j_putRF (t := 0) (j := 2) (u := 14) (ty := (.object "LastHome$War")) hc dX11_init_34 ⟨11, 15, RX11, TX11, _, tyX11, rfl, clX11, inX11, (am_mem 508 ki_508 rfl), by decide, rfl, tyX11_ok, nmX11, by decide +kernel, rfl, fun _ => rfl⟩ rfl (fun _ => rfl) (fun _ => rfl) ?_
  rw [am_RL_put]
  refine j_aload_n hc dX11_init_37 rfl ?_
  refine j_new (n := 25) (ci := 10) (ts := [2, 2, 2, 0, 0, 0]) hc dX11_init_38 rfl clX10 inX10 tyX10_ok ⟨(am_mem 247 ki_247 rfl), (am_mem 248 ki_248 rfl), (am_mem 119 ki_119 rfl)⟩ (fun j hj a => by match j, hj with | 0, _ => rfl | 1, _ => rfl | 2, _ => rfl | 3, _ => rfl | 4, _ => rfl | 5, _ => rfl) (am_IL_no rfl) rfl (am_RL_no rfl) (am_RL_ne rfl) (am_k8 hk0 (by decide) (by decide)) rfl ⟨by decide, by decide⟩ ?_
  refine j_dup hc dX11_init_41 rfl ?_
  refine j_aload_n hc dX11_init_42 rfl ?_
  refine j_getR (t := 0) (j := 0) (u := 1) hc dX11_init_43 ⟨11, 15, RX11, TX11, _, rfl, clX11, inX11, (am_mem 506 ki_506 rfl), by decide, rfl⟩ rfl ?_
  refine j_aload_n hc dX11_init_46 rfl ?_
  refine j_getR (t := 0) (j := 2) (u := 14) hc dX11_init_47 ⟨11, 15, RX11, TX11, _, rfl, clX11, inX11, (am_mem 508 ki_508 rfl), by decide, rfl⟩ rfl ?_
  refine j_callI (host := RX11) (t := 25) (As := [.ref 1, .ref 14]) (n := 26) hc dX11_init_50 (Or.inl (am_mem 249 ki_249 rfl)) ⟨am_mem 251 ki_251 rfl, (am_mem 250 ki_250 rfl), (am_mem 119 ki_119 rfl), rfl, by decide, by decide, by decide +kernel⟩ rfl rfl (am_k9 hk0 (by decide)) rfl (by omega) (Nat.le_of_ble_eq_true rfl) (Nat.le_of_ble_eq_true rfl) ⟨by decide, by decide⟩ (qiC_26_27 x.2.1 d) ?_
  refine j_putRF (t := 0) (j := 3) (u := 25) (ty := (.object "LastHome$WarText")) hc dX11_init_53 ⟨11, 15, RX11, TX11, _, tyX11, rfl, clX11, inX11, (am_mem 509 ki_509 rfl), by decide, rfl, tyX11_ok, nmX11, by decide +kernel, rfl, fun _ => rfl⟩ rfl (fun _ => rfl) (fun _ => rfl) ?_
  rw [am_RL_put]
  refine j_aload_n hc dX11_init_56 rfl ?_
  refine j_new (n := 27) (ci := 2) (ts := [2, 2, 0, 0]) hc dX11_init_57 rfl clX2 inX2 tyX2_ok ⟨(am_mem 272 ki_272 rfl), (am_mem 273 ki_273 rfl), (am_mem 120 ki_120 rfl)⟩ (fun j hj a => by match j, hj with | 0, _ => rfl | 1, _ => rfl | 2, _ => rfl | 3, _ => rfl) (am_IL_no rfl) rfl (am_RL_no rfl) (am_RL_ne rfl) (am_k8 hk0 (by decide) (by decide)) rfl ⟨by decide, by decide⟩ ?_
  refine j_dup hc dX11_init_60 rfl ?_
  refine j_aload_n hc dX11_init_61 rfl ?_
  refine j_getR (t := 0) (j := 0) (u := 1) hc dX11_init_62 ⟨11, 15, RX11, TX11, _, rfl, clX11, inX11, (am_mem 506 ki_506 rfl), by decide, rfl⟩ rfl ?_
  refine j_callI (host := RX11) (t := 27) (As := [.ref 1]) (n := 28) hc dX11_init_65 (Or.inl (am_mem 274 ki_274 rfl)) ⟨am_mem 276 ki_276 rfl, (am_mem 275 ki_275 rfl), (am_mem 120 ki_120 rfl), rfl, by decide, by decide, by decide +kernel⟩ rfl rfl (am_k9 hk0 (by decide)) rfl (by omega) (Nat.le_of_ble_eq_true rfl) (Nat.le_of_ble_eq_true rfl) ⟨by decide, by decide⟩ (qiC_28_29 x.2.1 d) ?_
  refine j_putRF (t := 0) (j := 4) (u := 27) (ty := (.object "LastHome$LawText")) hc dX11_init_68 ⟨11, 15, RX11, TX11, _, tyX11, rfl, clX11, inX11, (am_mem 510 ki_510 rfl), by decide, rfl, tyX11_ok, nmX11, by decide +kernel, rfl, fun _ => rfl⟩ rfl (fun _ => rfl) (fun _ => rfl) ?_
  rw [am_RL_put]
  refine j_aload_n hc dX11_init_71 rfl ?_
  refine j_new (n := 29) (ci := 3) (ts := [2, 2, 2, 2, 2, 0, 0]) hc dX11_init_72 rfl clX3 inX3 tyX3_ok ⟨(am_mem 293 ki_293 rfl), (am_mem 294 ki_294 rfl), (am_mem 121 ki_121 rfl)⟩ (fun j hj a => by match j, hj with | 0, _ => rfl | 1, _ => rfl | 2, _ => rfl | 3, _ => rfl | 4, _ => rfl | 5, _ => rfl | 6, _ => rfl) (am_IL_no rfl) rfl (am_RL_no rfl) (am_RL_ne rfl) (am_k8 hk0 (by decide) (by decide)) rfl ⟨by decide, by decide⟩ ?_
  refine j_dup hc dX11_init_75 rfl ?_
  refine j_callI (host := RX11) (t := 29) (As := []) (n := 30) hc dX11_init_76 (Or.inr (List.mem_of_getElem? (i := 2) rfl)) ⟨am_mem 297 ki_297 rfl, (am_mem 296 ki_296 rfl), (am_mem 121 ki_121 rfl), rfl, by decide, by decide, by decide +kernel⟩ rfl rfl (am_k9 hk0 (by decide)) rfl (by omega) (Nat.le_of_ble_eq_true rfl) (Nat.le_of_ble_eq_true rfl) ⟨by decide, by decide⟩ (qiC_30_39 x.2.1 d) ?_
  refine j_putRF (t := 0) (j := 5) (u := 29) (ty := (.object "LastHome$Laws")) hc dX11_init_79 ⟨11, 15, RX11, TX11, _, tyX11, rfl, clX11, inX11, (am_mem 511 ki_511 rfl), by decide, rfl, tyX11_ok, nmX11, by decide +kernel, rfl, fun _ => rfl⟩ rfl (fun _ => rfl) (fun _ => rfl) ?_
  rw [am_RL_put]
  refine j_aload_n hc dX11_init_82 rfl ?_
  refine j_new (n := 39) (ci := 7) (ts := [2, 2, 2, 2, 0, 0, 0]) hc dX11_init_83 rfl clX7 inX7 tyX7_ok ⟨(am_mem 328 ki_328 rfl), (am_mem 329 ki_329 rfl), (am_mem 122 ki_122 rfl)⟩ (fun j hj a => by match j, hj with | 0, _ => rfl | 1, _ => rfl | 2, _ => rfl | 3, _ => rfl | 4, _ => rfl | 5, _ => rfl | 6, _ => rfl) (am_IL_no rfl) rfl (am_RL_no rfl) (am_RL_ne rfl) (am_k8 hk0 (by decide) (by decide)) rfl ⟨by decide, by decide⟩ ?_
  refine j_dup hc dX11_init_86 rfl ?_
  refine j_aload_n hc dX11_init_87 rfl ?_
  refine j_getR (t := 0) (j := 1) (u := 3) hc dX11_init_88 ⟨11, 15, RX11, TX11, _, rfl, clX11, inX11, (am_mem 507 ki_507 rfl), by decide, rfl⟩ rfl ?_
  refine j_aload_n hc dX11_init_91 rfl ?_
  refine j_getR (t := 0) (j := 5) (u := 29) hc dX11_init_92 ⟨11, 15, RX11, TX11, _, rfl, clX11, inX11, (am_mem 511 ki_511 rfl), by decide, rfl⟩ rfl ?_
  refine j_callI (host := RX11) (t := 39) (As := [.ref 3, .ref 29]) (n := 40) hc dX11_init_95 (Or.inl (am_mem 330 ki_330 rfl)) ⟨am_mem 332 ki_332 rfl, (am_mem 331 ki_331 rfl), (am_mem 122 ki_122 rfl), rfl, by decide, by decide, by decide +kernel⟩ rfl rfl (am_k9 hk0 (by decide)) rfl (by omega) (Nat.le_of_ble_eq_true rfl) (Nat.le_of_ble_eq_true rfl) ⟨by decide, by decide⟩ (qiC_40_42 x.2.1 d) ?_
  refine j_putRF (t := 0) (j := 6) (u := 39) (ty := (.object "LastHome$Road")) hc dX11_init_98 ⟨11, 15, RX11, TX11, _, tyX11, rfl, clX11, inX11, (am_mem 512 ki_512 rfl), by decide, rfl, tyX11_ok, nmX11, by decide +kernel, rfl, fun _ => rfl⟩ rfl (fun _ => rfl) (fun _ => rfl) ?_
  rw [am_RL_put]
  refine j_aload_n hc dX11_init_101 rfl ?_
  refine j_new (n := 42) (ci := 5) (ts := [2, 2, 0, 0]) hc dX11_init_102 rfl clX5 inX5 tyX5_ok ⟨(am_mem 363 ki_363 rfl), (am_mem 364 ki_364 rfl), (am_mem 123 ki_123 rfl)⟩ (fun j hj a => by match j, hj with | 0, _ => rfl | 1, _ => rfl | 2, _ => rfl | 3, _ => rfl) (am_IL_no rfl) rfl (am_RL_no rfl) (am_RL_ne rfl) (am_k8 hk0 (by decide) (by decide)) rfl ⟨by decide, by decide⟩ ?_
  refine j_dup hc dX11_init_105 rfl ?_
  refine j_callI (host := RX11) (t := 42) (As := []) (n := 43) hc dX11_init_106 (Or.inr (List.mem_of_getElem? (i := 3) rfl)) ⟨am_mem 367 ki_367 rfl, (am_mem 366 ki_366 rfl), (am_mem 123 ki_123 rfl), rfl, by decide, by decide, by decide +kernel⟩ rfl rfl (am_k9 hk0 (by decide)) rfl (by omega) (Nat.le_of_ble_eq_true rfl) (Nat.le_of_ble_eq_true rfl) ⟨by decide, by decide⟩ (qiC_43_45 x.2.1 d) ?_
  refine j_putRF (t := 0) (j := 7) (u := 42) (ty := (.object "LastHome$Logbook")) hc dX11_init_109 ⟨11, 15, RX11, TX11, _, tyX11, rfl, clX11, inX11, (am_mem 513 ki_513 rfl), by decide, rfl, tyX11_ok, nmX11, by decide +kernel, rfl, fun _ => rfl⟩ rfl (fun _ => rfl) (fun _ => rfl) ?_
  rw [am_RL_put]
  refine j_aload_n hc dX11_init_112 rfl ?_
  refine j_new (n := 45) (ci := 6) (ts := [2, 2, 2, 2, 2, 0, 0, 0]) hc dX11_init_113 rfl clX6 inX6 tyX6_ok ⟨(am_mem 383 ki_383 rfl), (am_mem 384 ki_384 rfl), (am_mem 124 ki_124 rfl)⟩ (fun j hj a => by match j, hj with | 0, _ => rfl | 1, _ => rfl | 2, _ => rfl | 3, _ => rfl | 4, _ => rfl | 5, _ => rfl | 6, _ => rfl | 7, _ => rfl) (am_IL_no rfl) rfl (am_RL_no rfl) (am_RL_ne rfl) (am_k8 hk0 (by decide) (by decide)) rfl ⟨by decide, by decide⟩ ?_
  refine j_dup hc dX11_init_116 rfl ?_
  refine j_callI (host := RX11) (t := 45) (As := []) (n := 46) hc dX11_init_117 (Or.inr (List.mem_of_getElem? (i := 4) rfl)) ⟨am_mem 387 ki_387 rfl, (am_mem 386 ki_386 rfl), (am_mem 124 ki_124 rfl), rfl, by decide, by decide, by decide +kernel⟩ rfl rfl (am_k9 hk0 (by decide)) rfl (by omega) (Nat.le_of_ble_eq_true rfl) (Nat.le_of_ble_eq_true rfl) ⟨by decide, by decide⟩ (qiC_46_51 x.2.1 d) ?_
  refine j_putRF (t := 0) (j := 8) (u := 45) (ty := (.object "LastHome$Past")) hc dX11_init_120 ⟨11, 15, RX11, TX11, _, tyX11, rfl, clX11, inX11, (am_mem 514 ki_514 rfl), by decide, rfl, tyX11_ok, nmX11, by decide +kernel, rfl, fun _ => rfl⟩ rfl (fun _ => rfl) (fun _ => rfl) ?_
  rw [am_RL_put]
  refine j_aload_n hc dX11_init_123 rfl ?_
  refine j_new (n := 51) (ci := 0) (ts := [2, 2, 2, 2, 2, 2, 2, 2, 0, 0, 0, 0]) hc dX11_init_124 rfl clX0 inX0 tyX0_ok ⟨(am_mem 417 ki_417 rfl), (am_mem 418 ki_418 rfl), (am_mem 125 ki_125 rfl)⟩ (fun j hj a => by match j, hj with | 0, _ => rfl | 1, _ => rfl | 2, _ => rfl | 3, _ => rfl | 4, _ => rfl | 5, _ => rfl | 6, _ => rfl | 7, _ => rfl | 8, _ => rfl | 9, _ => rfl | 10, _ => rfl | 11, _ => rfl) (am_IL_no rfl) rfl (am_RL_no rfl) (am_RL_ne rfl) (am_k8 hk0 (by decide) (by decide)) rfl ⟨by decide, by decide⟩ ?_
  refine j_dup hc dX11_init_127 rfl ?_
  refine j_callI (host := RX11) (t := 51) (As := []) (n := 52) hc dX11_init_128 (Or.inr (List.mem_of_getElem? (i := 5) rfl)) ⟨am_mem 421 ki_421 rfl, (am_mem 420 ki_420 rfl), (am_mem 125 ki_125 rfl), rfl, by decide, by decide, by decide +kernel⟩ rfl rfl (am_k9 hk0 (by decide)) rfl (by omega) (Nat.le_of_ble_eq_true rfl) (Nat.le_of_ble_eq_true rfl) ⟨by decide, by decide⟩ (qiC_52_58 x.2.1 d) ?_
  refine j_putRF (t := 0) (j := 9) (u := 51) (ty := (.object "LastHome$Duels")) hc dX11_init_131 ⟨11, 15, RX11, TX11, _, tyX11, rfl, clX11, inX11, (am_mem 515 ki_515 rfl), by decide, rfl, tyX11_ok, nmX11, by decide +kernel, rfl, fun _ => rfl⟩ rfl (fun _ => rfl) (fun _ => rfl) ?_
  rw [am_RL_put]
  refine j_aload_n hc dX11_init_134 rfl ?_
  refine j_new (n := 58) (ci := 1) (ts := [2, 2, 2, 0]) hc dX11_init_135 rfl clX1 inX1 tyX1_ok ⟨(am_mem 460 ki_460 rfl), (am_mem 461 ki_461 rfl), (am_mem 126 ki_126 rfl)⟩ (fun j hj a => by match j, hj with | 0, _ => rfl | 1, _ => rfl | 2, _ => rfl | 3, _ => rfl) (am_IL_no rfl) rfl (am_RL_no rfl) (am_RL_ne rfl) (am_k8 hk0 (by decide) (by decide)) rfl ⟨by decide, by decide⟩ ?_
  refine j_dup hc dX11_init_138 rfl ?_
  refine j_aload_n hc dX11_init_139 rfl ?_
  refine j_getR (t := 0) (j := 1) (u := 3) hc dX11_init_140 ⟨11, 15, RX11, TX11, _, rfl, clX11, inX11, (am_mem 507 ki_507 rfl), by decide, rfl⟩ rfl ?_
  refine j_aload_n hc dX11_init_143 rfl ?_
  refine j_getR (t := 0) (j := 6) (u := 39) hc dX11_init_144 ⟨11, 15, RX11, TX11, _, rfl, clX11, inX11, (am_mem 512 ki_512 rfl), by decide, rfl⟩ rfl ?_
  refine j_callI (host := RX11) (t := 58) (As := [.ref 3, .ref 39]) (n := 59) hc dX11_init_147 (Or.inl (am_mem 462 ki_462 rfl)) ⟨am_mem 464 ki_464 rfl, (am_mem 463 ki_463 rfl), (am_mem 126 ki_126 rfl), rfl, by decide, by decide, by decide +kernel⟩ rfl rfl (am_k9 hk0 (by decide)) rfl (by omega) (Nat.le_of_ble_eq_true rfl) (Nat.le_of_ble_eq_true rfl) ⟨by decide, by decide⟩ (qiC_59_60 x.2.1 d) ?_
  refine j_putRF (t := 0) (j := 10) (u := 58) (ty := (.object "LastHome$Escorts")) hc dX11_init_150 ⟨11, 15, RX11, TX11, _, tyX11, rfl, clX11, inX11, (am_mem 516 ki_516 rfl), by decide, rfl, tyX11_ok, nmX11, by decide +kernel, rfl, fun _ => rfl⟩ rfl (fun _ => rfl) (fun _ => rfl) ?_
  rw [am_RL_put]
  refine j_aload_n hc dX11_init_153 rfl ?_
  refine j_new (n := 60) (ci := 4) (ts := [2, 2, 2, 2, 0, 0]) hc dX11_init_154 rfl clX4 inX4 tyX4_ok ⟨(am_mem 479 ki_479 rfl), (am_mem 480 ki_480 rfl), (am_mem 127 ki_127 rfl)⟩ (fun j hj a => by match j, hj with | 0, _ => rfl | 1, _ => rfl | 2, _ => rfl | 3, _ => rfl | 4, _ => rfl | 5, _ => rfl) (am_IL_no rfl) rfl (am_RL_no rfl) (am_RL_ne rfl) (am_k8 hk0 (by decide) (by decide)) rfl ⟨by decide, by decide⟩ ?_
  refine j_dup hc dX11_init_157 rfl ?_
  refine j_callI (host := RX11) (t := 60) (As := []) (n := 61) hc dX11_init_158 (Or.inr (List.mem_of_getElem? (i := 6) rfl)) ⟨am_mem 483 ki_483 rfl, (am_mem 482 ki_482 rfl), (am_mem 127 ki_127 rfl), rfl, by decide, by decide, by decide +kernel⟩ rfl rfl (am_k9 hk0 (by decide)) rfl (by omega) (Nat.le_of_ble_eq_true rfl) (Nat.le_of_ble_eq_true rfl) ⟨by decide, by decide⟩ (qiC_61_65 x.2.1 d) ?_
  refine j_putRF (t := 0) (j := 11) (u := 60) (ty := (.object "LastHome$Letters")) hc dX11_init_161 ⟨11, 15, RX11, TX11, _, tyX11, rfl, clX11, inX11, (am_mem 517 ki_517 rfl), by decide, rfl, tyX11_ok, nmX11, by decide +kernel, rfl, fun _ => rfl⟩ rfl (fun _ => rfl) (fun _ => rfl) ?_
  rw [am_RL_put]
  refine j_aload_n hc dX11_init_164 rfl ?_
  refine j_bipush (v := (21 : Int32)) hc dX11_init_165 (by decide) ?_
  refine j_newL (n := 65) (N := 21) hc dX11_init_167 rfl (am_mem 416 ki_416 rfl) (by decide) (by decide) rfl (am_RL_ne rfl) (am_k8 hk0 (by decide) (by decide)) rfl ⟨by decide, by decide⟩ ?_
  refine j_putRF (t := 0) (j := 12) (u := 65) (ty := (.array .long)) hc dX11_init_169 ⟨11, 15, RX11, TX11, _, tyX11, rfl, clX11, inX11, (am_mem 518 ki_518 rfl), by decide, rfl, tyX11_ok, nmX11, by decide +kernel, rfl, fun _ => rfl⟩ rfl (fun _ => rfl) (fun _ => rfl) ?_
  rw [am_RL_put]
  refine j_aload_n hc dX11_init_172 rfl ?_
  refine j_bipush (v := (8 : Int32)) hc dX11_init_173 (by decide) ?_
  refine j_newI (n := 66) (N := 8) hc dX11_init_175 rfl (am_mem 165 ki_165 rfl) (by decide) (by decide) (am_IL_no rfl) (am_RL_ne rfl) (am_k8 hk0 (by decide) (by decide)) rfl ⟨by decide, by decide⟩ ?_
  refine j_putRF (t := 0) (j := 13) (u := 66) (ty := (.array .int)) hc dX11_init_177 ⟨11, 15, RX11, TX11, _, tyX11, rfl, clX11, inX11, (am_mem 519 ki_519 rfl), by decide, rfl, tyX11_ok, nmX11, by decide +kernel, rfl, fun _ => rfl⟩ rfl (fun _ => rfl) (fun _ => rfl) ?_
  rw [am_RL_put]
  refine j_aload_n hc dX11_init_180 rfl ?_
  refine j_lconst (v := (0 : Int64)) hc dX11_init_181 (by decide) ?_
  refine j_putLd (t := 0) (j := 14) (ty := .long) hc dX11_init_182 ⟨11, 15, RX11, TX11, _, tyX11, rfl, clX11, inX11, (am_mem 520 ki_520 rfl), by decide, rfl, tyX11_ok, nmX11, by decide +kernel, rfl, fun h => Bool.noConfusion h⟩ rfl rfl ?_
  rw [am_L0_put]
  exact j_return hc dX11_init_185 rfl rfl rfl
set_option maxRecDepth 100000 in
set_option maxHeartbeats 8000000 in
theorem qiM_1_26 (l : Launch) (d : Nat) : am_CA l yX12_init cX12_init 1 none (d + 1) 25 104739 (fun k => k < 1 ∨ 1000000 ≤ k) [.ref 0] KIM_1 (am_RL RIM_0) (am_IL IIM_0) am_L0 (fun S => S = (none, KIM_26, am_RL RIM_25, am_IL IIM_1, am_L0)) := by
  refine am_introA (plainFor_of_name plX12) (fun _ h => Or.inr h) (Nat.le_of_ble_eq_true rfl) (fun x hl hc hk0 => ?_)
  subst hl
  refine j_sub (lv' := [some (.ref 0)]) ?_ (And.intro rfl (trivial))
  refine j_aload_n hc dX12_init_0 rfl ?_
  refine j_objInit hc dX12_init_1 (am_mem 1475 ki_1475 rfl) ⟨(am_mem 147 ki_147 rfl), am_mem 148 ki_148 rfl⟩ (by omega) (Nat.le_of_ble_eq_true rfl) ?_
  refine j_aload_n hc dX12_init_4 rfl ?_
  refine j_sipush (v := (240 : Int32)) hc dX12_init_5 (by decide) ?_
  refine j_newI (n := 1) (N := 240) hc dX12_init_8 rfl (am_mem 165 ki_165 rfl) (by decide) (by decide) (am_IL_no rfl) (am_RL_ne rfl) (am_k8 hk0 (by decide) (by decide)) rfl ⟨by decide, by decide⟩ ?_
  refine j_putRF (t := 0) (j := 1) (u := 1) (ty := (.array .int)) hc dX12_init_10 ⟨12, 44, RX12, TX12, _, tyX12, rfl, clX12, inX12, (am_mem 1478 ki_1478 rfl), by decide, rfl, tyX12_ok, nmX12, by decide +kernel, rfl, fun _ => rfl⟩ rfl (fun _ => rfl) (fun _ => rfl) ?_
  rw [am_RL_put]
  refine j_aload_n hc dX12_init_13 rfl ?_
  refine j_sipush (v := (2600 : Int32)) hc dX12_init_14 (by decide) ?_
  refine j_newI (n := 2) (N := 2600) hc dX12_init_17 rfl (am_mem 165 ki_165 rfl) (by decide) (by decide) (am_IL_no rfl) (am_RL_ne rfl) (am_k8 hk0 (by decide) (by decide)) rfl ⟨by decide, by decide⟩ ?_
  refine j_putRF (t := 0) (j := 6) (u := 2) (ty := (.array .int)) hc dX12_init_19 ⟨12, 44, RX12, TX12, _, tyX12, rfl, clX12, inX12, (am_mem 1483 ki_1483 rfl), by decide, rfl, tyX12_ok, nmX12, by decide +kernel, rfl, fun _ => rfl⟩ rfl (fun _ => rfl) (fun _ => rfl) ?_
  rw [am_RL_put]
  refine j_aload_n hc dX12_init_22 rfl ?_
  refine j_sipush (v := (2600 : Int32)) hc dX12_init_23 (by decide) ?_
  refine j_newI (n := 3) (N := 2600) hc dX12_init_26 rfl (am_mem 165 ki_165 rfl) (by decide) (by decide) (am_IL_no rfl) (am_RL_ne rfl) (am_k8 hk0 (by decide) (by decide)) rfl ⟨by decide, by decide⟩ ?_
  refine j_putRF (t := 0) (j := 7) (u := 3) (ty := (.array .int)) hc dX12_init_28 ⟨12, 44, RX12, TX12, _, tyX12, rfl, clX12, inX12, (am_mem 1484 ki_1484 rfl), by decide, rfl, tyX12_ok, nmX12, by decide +kernel, rfl, fun _ => rfl⟩ rfl (fun _ => rfl) (fun _ => rfl) ?_
  rw [am_RL_put]
  refine j_aload_n hc dX12_init_31 rfl ?_
  refine j_iconst (v := (5 : Int32)) hc dX12_init_32 (by decide) ?_
  refine j_newI (n := 4) (N := 5) hc dX12_init_33 rfl (am_mem 165 ki_165 rfl) (by decide) (by decide) (am_IL_no rfl) (am_RL_ne rfl) (am_k8 hk0 (by decide) (by decide)) rfl ⟨by decide, by decide⟩ ?_
  refine j_putRF (t := 0) (j := 8) (u := 4) (ty := (.array .int)) hc dX12_init_35 ⟨12, 44, RX12, TX12, _, tyX12, rfl, clX12, inX12, (am_mem 1485 ki_1485 rfl), by decide, rfl, tyX12_ok, nmX12, by decide +kernel, rfl, fun _ => rfl⟩ rfl (fun _ => rfl) (fun _ => rfl) ?_
  rw [am_RL_put]
  refine j_aload_n hc dX12_init_38 rfl ?_
  refine j_iconst (v := (5 : Int32)) hc dX12_init_39 (by decide) ?_
  refine j_newI (n := 5) (N := 5) hc dX12_init_40 rfl (am_mem 165 ki_165 rfl) (by decide) (by decide) (am_IL_no rfl) (am_RL_ne rfl) (am_k8 hk0 (by decide) (by decide)) rfl ⟨by decide, by decide⟩ ?_
  refine j_putRF (t := 0) (j := 9) (u := 5) (ty := (.array .int)) hc dX12_init_42 ⟨12, 44, RX12, TX12, _, tyX12, rfl, clX12, inX12, (am_mem 1486 ki_1486 rfl), by decide, rfl, tyX12_ok, nmX12, by decide +kernel, rfl, fun _ => rfl⟩ rfl (fun _ => rfl) (fun _ => rfl) ?_
  rw [am_RL_put]
  refine j_aload_n hc dX12_init_45 rfl ?_
  refine j_sipush (v := (700 : Int32)) hc dX12_init_46 (by decide) ?_
  refine j_newI (n := 6) (N := 700) hc dX12_init_49 rfl (am_mem 165 ki_165 rfl) (by decide) (by decide) (am_IL_no rfl) (am_RL_ne rfl) (am_k8 hk0 (by decide) (by decide)) rfl ⟨by decide, by decide⟩ ?_
  refine j_putRF (t := 0) (j := 10) (u := 6) (ty := (.array .int)) hc dX12_init_51 ⟨12, 44, RX12, TX12, _, tyX12, rfl, clX12, inX12, (am_mem 1487 ki_1487 rfl), by decide, rfl, tyX12_ok, nmX12, by decide +kernel, rfl, fun _ => rfl⟩ rfl (fun _ => rfl) (fun _ => rfl) ?_
  rw [am_RL_put]
  refine j_aload_n hc dX12_init_54 rfl ?_
  refine j_sipush (v := (700 : Int32)) hc dX12_init_55 (by decide) ?_
  refine j_newI (n := 7) (N := 700) hc dX12_init_58 rfl (am_mem 165 ki_165 rfl) (by decide) (by decide) (am_IL_no rfl) (am_RL_ne rfl) (am_k8 hk0 (by decide) (by decide)) rfl ⟨by decide, by decide⟩ ?_
  refine j_putRF (t := 0) (j := 11) (u := 7) (ty := (.array .int)) hc dX12_init_60 ⟨12, 44, RX12, TX12, _, tyX12, rfl, clX12, inX12, (am_mem 1488 ki_1488 rfl), by decide, rfl, tyX12_ok, nmX12, by decide +kernel, rfl, fun _ => rfl⟩ rfl (fun _ => rfl) (fun _ => rfl) ?_
  rw [am_RL_put]
  refine j_aload_n hc dX12_init_63 rfl ?_
  refine j_sipush (v := (700 : Int32)) hc dX12_init_64 (by decide) ?_
  refine j_newI (n := 8) (N := 700) hc dX12_init_67 rfl (am_mem 165 ki_165 rfl) (by decide) (by decide) (am_IL_no rfl) (am_RL_ne rfl) (am_k8 hk0 (by decide) (by decide)) rfl ⟨by decide, by decide⟩ ?_
  refine j_putRF (t := 0) (j := 12) (u := 8) (ty := (.array .int)) hc dX12_init_69 ⟨12, 44, RX12, TX12, _, tyX12, rfl, clX12, inX12, (am_mem 1489 ki_1489 rfl), by decide, rfl, tyX12_ok, nmX12, by decide +kernel, rfl, fun _ => rfl⟩ rfl (fun _ => rfl) (fun _ => rfl) ?_
  rw [am_RL_put]
  refine j_aload_n hc dX12_init_72 rfl ?_
  refine j_bipush (v := (6 : Int32)) hc dX12_init_73 (by decide) ?_
  refine j_newI (n := 9) (N := 6) hc dX12_init_75 rfl (am_mem 165 ki_165 rfl) (by decide) (by decide) (am_IL_no rfl) (am_RL_ne rfl) (am_k8 hk0 (by decide) (by decide)) rfl ⟨by decide, by decide⟩ ?_
  refine j_putRF (t := 0) (j := 15) (u := 9) (ty := (.array .int)) hc dX12_init_77 ⟨12, 44, RX12, TX12, _, tyX12, rfl, clX12, inX12, (am_mem 1492 ki_1492 rfl), by decide, rfl, tyX12_ok, nmX12, by decide +kernel, rfl, fun _ => rfl⟩ rfl (fun _ => rfl) (fun _ => rfl) ?_
  rw [am_RL_put]
  refine j_aload_n hc dX12_init_80 rfl ?_
  refine j_bipush (v := (80 : Int32)) hc dX12_init_81 (by decide) ?_
  refine j_newI (n := 10) (N := 80) hc dX12_init_83 rfl (am_mem 165 ki_165 rfl) (by decide) (by decide) (am_IL_no rfl) (am_RL_ne rfl) (am_k8 hk0 (by decide) (by decide)) rfl ⟨by decide, by decide⟩ ?_
  refine j_putRF (t := 0) (j := 16) (u := 10) (ty := (.array .int)) hc dX12_init_85 ⟨12, 44, RX12, TX12, _, tyX12, rfl, clX12, inX12, (am_mem 1493 ki_1493 rfl), by decide, rfl, tyX12_ok, nmX12, by decide +kernel, rfl, fun _ => rfl⟩ rfl (fun _ => rfl) (fun _ => rfl) ?_
  rw [am_RL_put]
  refine j_aload_n hc dX12_init_88 rfl ?_
  refine j_bipush (v := (48 : Int32)) hc dX12_init_89 (by decide) ?_
  refine j_newI (n := 11) (N := 48) hc dX12_init_91 rfl (am_mem 165 ki_165 rfl) (by decide) (by decide) (am_IL_no rfl) (am_RL_ne rfl) (am_k8 hk0 (by decide) (by decide)) rfl ⟨by decide, by decide⟩ ?_
  refine j_putRF (t := 0) (j := 17) (u := 11) (ty := (.array .int)) hc dX12_init_93 ⟨12, 44, RX12, TX12, _, tyX12, rfl, clX12, inX12, (am_mem 1494 ki_1494 rfl), by decide, rfl, tyX12_ok, nmX12, by decide +kernel, rfl, fun _ => rfl⟩ rfl (fun _ => rfl) (fun _ => rfl) ?_
  rw [am_RL_put]
  refine j_aload_n hc dX12_init_96 rfl ?_
  refine j_bipush (v := (12 : Int32)) hc dX12_init_97 (by decide) ?_
  refine j_newI (n := 12) (N := 12) hc dX12_init_99 rfl (am_mem 165 ki_165 rfl) (by decide) (by decide) (am_IL_no rfl) (am_RL_ne rfl) (am_k8 hk0 (by decide) (by decide)) rfl ⟨by decide, by decide⟩ ?_
  refine j_putRF (t := 0) (j := 18) (u := 12) (ty := (.array .int)) hc dX12_init_101 ⟨12, 44, RX12, TX12, _, tyX12, rfl, clX12, inX12, (am_mem 1495 ki_1495 rfl), by decide, rfl, tyX12_ok, nmX12, by decide +kernel, rfl, fun _ => rfl⟩ rfl (fun _ => rfl) (fun _ => rfl) ?_
  rw [am_RL_put]
  refine j_aload_n hc dX12_init_104 rfl ?_
  refine j_iconst (v := (2 : Int32)) hc dX12_init_105 (by decide) ?_
  refine j_newI (n := 13) (N := 2) hc dX12_init_106 rfl (am_mem 165 ki_165 rfl) (by decide) (by decide) (am_IL_no rfl) (am_RL_ne rfl) (am_k8 hk0 (by decide) (by decide)) rfl ⟨by decide, by decide⟩ ?_
  refine j_putRF (t := 0) (j := 19) (u := 13) (ty := (.array .int)) hc dX12_init_108 ⟨12, 44, RX12, TX12, _, tyX12, rfl, clX12, inX12, (am_mem 1496 ki_1496 rfl), by decide, rfl, tyX12_ok, nmX12, by decide +kernel, rfl, fun _ => rfl⟩ rfl (fun _ => rfl) (fun _ => rfl) ?_
  rw [am_RL_put]
  refine j_aload_n hc dX12_init_111 rfl ?_
  refine j_bipush (v := (48 : Int32)) hc dX12_init_112 (by decide) ?_
  refine j_newI (n := 14) (N := 48) hc dX12_init_114 rfl (am_mem 165 ki_165 rfl) (by decide) (by decide) (am_IL_no rfl) (am_RL_ne rfl) (am_k8 hk0 (by decide) (by decide)) rfl ⟨by decide, by decide⟩ ?_
  refine j_putRF (t := 0) (j := 22) (u := 14) (ty := (.array .int)) hc dX12_init_116 ⟨12, 44, RX12, TX12, _, tyX12, rfl, clX12, inX12, (am_mem 1499 ki_1499 rfl), by decide, rfl, tyX12_ok, nmX12, by decide +kernel, rfl, fun _ => rfl⟩ rfl (fun _ => rfl) (fun _ => rfl) ?_
  rw [am_RL_put]
  refine j_aload_n hc dX12_init_119 rfl ?_
  refine j_bipush (v := (12 : Int32)) hc dX12_init_120 (by decide) ?_
  refine j_newI (n := 15) (N := 12) hc dX12_init_122 rfl (am_mem 165 ki_165 rfl) (by decide) (by decide) (am_IL_no rfl) (am_RL_ne rfl) (am_k8 hk0 (by decide) (by decide)) rfl ⟨by decide, by decide⟩ ?_
  refine j_putRF (t := 0) (j := 23) (u := 15) (ty := (.array .int)) hc dX12_init_124 ⟨12, 44, RX12, TX12, _, tyX12, rfl, clX12, inX12, (am_mem 1500 ki_1500 rfl), by decide, rfl, tyX12_ok, nmX12, by decide +kernel, rfl, fun _ => rfl⟩ rfl (fun _ => rfl) (fun _ => rfl) ?_
  rw [am_RL_put]
  refine j_aload_n hc dX12_init_127 rfl ?_
  refine j_iconst (v := (2 : Int32)) hc dX12_init_128 (by decide) ?_
  refine j_newI (n := 16) (N := 2) hc dX12_init_129 rfl (am_mem 165 ki_165 rfl) (by decide) (by decide) (am_IL_no rfl) (am_RL_ne rfl) (am_k8 hk0 (by decide) (by decide)) rfl ⟨by decide, by decide⟩ ?_
  refine j_putRF (t := 0) (j := 24) (u := 16) (ty := (.array .int)) hc dX12_init_131 ⟨12, 44, RX12, TX12, _, tyX12, rfl, clX12, inX12, (am_mem 1501 ki_1501 rfl), by decide, rfl, tyX12_ok, nmX12, by decide +kernel, rfl, fun _ => rfl⟩ rfl (fun _ => rfl) (fun _ => rfl) ?_
  rw [am_RL_put]
  refine j_aload_n hc dX12_init_134 rfl ?_
  refine j_sipush (v := (206 : Int32)) hc dX12_init_135 (by decide) ?_
  refine j_newI (n := 17) (N := 206) hc dX12_init_138 rfl (am_mem 165 ki_165 rfl) (by decide) (by decide) (am_IL_no rfl) (am_RL_ne rfl) (am_k8 hk0 (by decide) (by decide)) rfl ⟨by decide, by decide⟩ ?_
  refine j_putRF (t := 0) (j := 27) (u := 17) (ty := (.array .int)) hc dX12_init_140 ⟨12, 44, RX12, TX12, _, tyX12, rfl, clX12, inX12, (am_mem 1504 ki_1504 rfl), by decide, rfl, tyX12_ok, nmX12, by decide +kernel, rfl, fun _ => rfl⟩ rfl (fun _ => rfl) (fun _ => rfl) ?_
  rw [am_RL_put]
  refine j_aload_n hc dX12_init_143 rfl ?_
  refine j_iconst (v := (-1 : Int32)) hc dX12_init_144 (by decide) ?_
  refine j_putId (t := 0) (j := 28) (ty := .int) hc dX12_init_145 ⟨12, 44, RX12, TX12, _, tyX12, rfl, clX12, inX12, (am_mem 1505 ki_1505 rfl), by decide, rfl, tyX12_ok, nmX12, by decide +kernel, rfl, fun h => Bool.noConfusion h⟩ rfl rfl ?_
  rw [am_IL_put]
  refine j_aload_n hc dX12_init_148 rfl ?_
  refine j_sipush (v := (8240 : Int32)) hc dX12_init_149 (by decide) ?_
  refine j_newI (n := 18) (N := 8240) hc dX12_init_152 rfl (am_mem 165 ki_165 rfl) (by decide) (by decide) (am_IL_no rfl) (am_RL_ne rfl) (am_k8 hk0 (by decide) (by decide)) rfl ⟨by decide, by decide⟩ ?_
  refine j_putRF (t := 0) (j := 29) (u := 18) (ty := (.array .int)) hc dX12_init_154 ⟨12, 44, RX12, TX12, _, tyX12, rfl, clX12, inX12, (am_mem 1506 ki_1506 rfl), by decide, rfl, tyX12_ok, nmX12, by decide +kernel, rfl, fun _ => rfl⟩ rfl (fun _ => rfl) (fun _ => rfl) ?_
  rw [am_RL_put]
  refine j_aload_n hc dX12_init_157 rfl ?_
  refine j_ldc (v := (88200 : Int32)) hc dX12_init_158 (am_mem 1476 ki_1476 rfl) ?_
  refine j_newI (n := 19) (N := 88200) hc dX12_init_160 rfl (am_mem 165 ki_165 rfl) (by decide) (by decide) (am_IL_no rfl) (am_RL_ne rfl) (am_k8 hk0 (by decide) (by decide)) rfl ⟨by decide, by decide⟩ ?_
  refine j_putRF (t := 0) (j := 32) (u := 19) (ty := (.array .int)) hc dX12_init_162 ⟨12, 44, RX12, TX12, _, tyX12, rfl, clX12, inX12, (am_mem 1509 ki_1509 rfl), by decide, rfl, tyX12_ok, nmX12, by decide +kernel, rfl, fun _ => rfl⟩ rfl (fun _ => rfl) (fun _ => rfl) ?_
  rw [am_RL_put]
  refine j_aload_n hc dX12_init_165 rfl ?_
  refine j_iconst (v := (2 : Int32)) hc dX12_init_166 (by decide) ?_
  refine j_newI (n := 20) (N := 2) hc dX12_init_167 rfl (am_mem 165 ki_165 rfl) (by decide) (by decide) (am_IL_no rfl) (am_RL_ne rfl) (am_k8 hk0 (by decide) (by decide)) rfl ⟨by decide, by decide⟩ ?_
  refine j_putRF (t := 0) (j := 33) (u := 20) (ty := (.array .int)) hc dX12_init_169 ⟨12, 44, RX12, TX12, _, tyX12, rfl, clX12, inX12, (am_mem 1510 ki_1510 rfl), by decide, rfl, tyX12_ok, nmX12, by decide +kernel, rfl, fun _ => rfl⟩ rfl (fun _ => rfl) (fun _ => rfl) ?_
  rw [am_RL_put]
  refine j_aload_n hc dX12_init_172 rfl ?_
  refine j_bipush (v := (10 : Int32)) hc dX12_init_173 (by decide) ?_
  refine j_newI (n := 21) (N := 10) hc dX12_init_175 rfl (am_mem 165 ki_165 rfl) (by decide) (by decide) (am_IL_no rfl) (am_RL_ne rfl) (am_k8 hk0 (by decide) (by decide)) rfl ⟨by decide, by decide⟩ ?_
  refine j_putRF (t := 0) (j := 37) (u := 21) (ty := (.array .int)) hc dX12_init_177 ⟨12, 44, RX12, TX12, _, tyX12, rfl, clX12, inX12, (am_mem 1514 ki_1514 rfl), by decide, rfl, tyX12_ok, nmX12, by decide +kernel, rfl, fun _ => rfl⟩ rfl (fun _ => rfl) (fun _ => rfl) ?_
  rw [am_RL_put]
  refine j_aload_n hc dX12_init_180 rfl ?_
  refine j_bipush (v := (10 : Int32)) hc dX12_init_181 (by decide) ?_
  refine j_newI (n := 22) (N := 10) hc dX12_init_183 rfl (am_mem 165 ki_165 rfl) (by decide) (by decide) (am_IL_no rfl) (am_RL_ne rfl) (am_k8 hk0 (by decide) (by decide)) rfl ⟨by decide, by decide⟩ ?_
  refine j_putRF (t := 0) (j := 38) (u := 22) (ty := (.array .int)) hc dX12_init_185 ⟨12, 44, RX12, TX12, _, tyX12, rfl, clX12, inX12, (am_mem 1515 ki_1515 rfl), by decide, rfl, tyX12_ok, nmX12, by decide +kernel, rfl, fun _ => rfl⟩ rfl (fun _ => rfl) (fun _ => rfl) ?_
  rw [am_RL_put]
  refine j_aload_n hc dX12_init_188 rfl ?_
  refine j_bipush (v := (84 : Int32)) hc dX12_init_189 (by decide) ?_
  refine j_newI (n := 23) (N := 84) hc dX12_init_191 rfl (am_mem 165 ki_165 rfl) (by decide) (by decide) (am_IL_no rfl) (am_RL_ne rfl) (am_k8 hk0 (by decide) (by decide)) rfl ⟨by decide, by decide⟩ ?_
  refine j_putRF (t := 0) (j := 40) (u := 23) (ty := (.array .int)) hc dX12_init_193 ⟨12, 44, RX12, TX12, _, tyX12, rfl, clX12, inX12, (am_mem 1517 ki_1517 rfl), by decide, rfl, tyX12_ok, nmX12, by decide +kernel, rfl, fun _ => rfl⟩ rfl (fun _ => rfl) (fun _ => rfl) ?_
  rw [am_RL_put]
  refine j_aload_n hc dX12_init_196 rfl ?_
  refine j_bipush (v := (21 : Int32)) hc dX12_init_197 (by decide) ?_
  refine j_newL (n := 24) (N := 21) hc dX12_init_199 rfl (am_mem 416 ki_416 rfl) (by decide) (by decide) rfl (am_RL_ne rfl) (am_k8 hk0 (by decide) (by decide)) rfl ⟨by decide, by decide⟩ ?_
  refine j_putRF (t := 0) (j := 41) (u := 24) (ty := (.array .long)) hc dX12_init_201 ⟨12, 44, RX12, TX12, _, tyX12, rfl, clX12, inX12, (am_mem 1518 ki_1518 rfl), by decide, rfl, tyX12_ok, nmX12, by decide +kernel, rfl, fun _ => rfl⟩ rfl (fun _ => rfl) (fun _ => rfl) ?_
  rw [am_RL_put]
  refine j_aload_n hc dX12_init_204 rfl ?_
  refine j_sipush (v := (206 : Int32)) hc dX12_init_205 (by decide) ?_
  refine j_newI (n := 25) (N := 206) hc dX12_init_208 rfl (am_mem 165 ki_165 rfl) (by decide) (by decide) (am_IL_no rfl) (am_RL_ne rfl) (am_k8 hk0 (by decide) (by decide)) rfl ⟨by decide, by decide⟩ ?_
  refine j_putRF (t := 0) (j := 42) (u := 25) (ty := (.array .int)) hc dX12_init_210 ⟨12, 44, RX12, TX12, _, tyX12, rfl, clX12, inX12, (am_mem 1519 ki_1519 rfl), by decide, rfl, tyX12_ok, nmX12, by decide +kernel, rfl, fun _ => rfl⟩ rfl (fun _ => rfl) (fun _ => rfl) ?_
  rw [am_RL_put]
  exact j_return hc dX12_init_213 rfl rfl rfl
