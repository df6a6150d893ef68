/-! LastHome.man where it returns -/
theorem kv_199 : lw_tbl[199]? = some (Cond.fieldLink RX11 174 (TX9 8).1 (TX9 8).2.1 (TX9 8).2.2.1) := by decide +kernel
theorem kv_1401 : lw_tbl[1401]? = some (Cond.instanceMethod yX11_man) := by decide +kernel
theorem kv_1402 : lw_tbl[1402]? = some (Cond.selects RX11 yX11_man yX11_man) := by decide +kernel
theorem kv_1403 : lw_tbl[1403]? = some (Cond.code yX11_man cX11_man 3 (some .int)) := by decide +kernel
theorem kw_199 : Cond.fieldLink RX11 174 (TX9 8).1 (TX9 8).2.1 (TX9 8).2.2.1 ∈ am_gd := am_mem 199 kv_199 rfl
theorem mX11_man : am_mv yX11_man cX11_man 3 (some .int) 2 := ⟨am_mem 1403 kv_1403 rfl, am_mem 1401 kv_1401 rfl, am_mem 1402 kv_1402 rfl, am_mem 116 kv_116 rfl, by decide, by decide, by decide +kernel⟩
theorem fgC_X11_174_3 (al : Bool) : am_fg (KC al) RX11 174 3 8 2 := ⟨9, 15, RX9, TX9, _, (kC_3 al), clX9, inX9, kw_199, by decide, rfl⟩
set_option maxRecDepth 100000 in
def fX11_man (n d : Nat) (a1 : Int32) (a2 : Int32) (I : am_I) (L : am_L) : Option (Int32 × am_I × am_L) :=
  am_b3 (fX9_hasMan_war n d a1 I L) (fun v1 I1 L1 => if v1 = 0 then
    (none)
    else
    (am_sw a2 0 [am_ck a1 8 (am_lt (I1 4 (a1).toNatClampNeg) (fun v2 => some (v2, I1, L1))), am_ck a1 8 (am_lt (I1 40 (a1).toNatClampNeg) (fun v3 => some (v3, I1, L1))), am_ck a1 8 (am_lt (I1 6 (a1).toNatClampNeg) (fun v4 => some (v4, I1, L1))), am_ck a1 8 (am_lt (I1 7 (a1).toNatClampNeg) (fun v5 => some (v5, I1, L1))), am_ck a1 8 (am_lt (I1 8 (a1).toNatClampNeg) (fun v6 => some (v6, I1, L1))), am_ck a1 8 (am_lt (I1 9 (a1).toNatClampNeg) (fun v7 => some (v7, I1, L1))), am_ck a1 8 (am_lt (I1 41 (a1).toNatClampNeg) (fun v8 => some (v8, I1, L1))), am_b3 (fX7_didDeed n d a1 I1 L1) (fun v9 I9 L9 => if v9 = 0 then
          (some ((0 : Int32), I9, L9))
          else
          (some ((1 : Int32), I9, L9))), am_b3 (fX7_isHome n d a1 I1 L1) (fun v10 I10 L10 => if v10 = 0 then
          (some ((0 : Int32), I10, L10))
          else
          (some ((1 : Int32), I10, L10)))] (none)))

set_option maxRecDepth 100000 in
set_option maxHeartbeats 4000000 in
theorem tX11_man {x : am_X} {al : Bool} (n d : Nat) (hc : am_ok x cX11_man yX11_man 3 (some .int) (d + 2) 0 0) {r : Int32} {I' : am_I} {L' : am_L} (a1 : Int32) (a2 : Int32) (I : am_I) (L : am_L) (hf : fX11_man n d a1 a2 I L = some (r, I', L')) : am_J x (fun S => S = (some (.int r), (KC al), (RC al), I', L')) 0 [some (.ref 0), some (.int a1), some (.int a2)] [] (KC al) (RC al) I L 0 0 := by
  unfold fX11_man at hf
  refine j_aload_n hc dX11_man_0 rfl ?_
  refine j_getR (u := 3) hc dX11_man_1 (fgC_X11_19_0 _) (rC_0_1 _) ?_
  refine j_iload_n hc dX11_man_4 rfl ?_
  refine j_callVI (t := 3) (As := [.int a1]) hc dX11_man_5 kw_978 mX9_hasMan (kC_3 _) clX9 rfl (by omega) (Nat.le_of_ble_eq_true rfl) (Nat.le_of_ble_eq_true rfl) ⟨Nat.le_refl _, Nat.le_refl _⟩ hf (fun v I' L' h => qX9_hasMan_war x.2.1 n d a1 I L v I' L' h) (fun v1 I1 L1 hf => ?_)
  refine j_if_ne (tgt := 21) hc dX11_man_8 rfl hf (fun hf => ?_) (fun hf => ?_)
  · refine j_iload_n hc dX11_man_21 rfl ?_
    refine j_tab (lo := 0) (tgt := 176) hc dX11_man_22 rfl rfl rfl hf (fun hf => ?_) (fun k K off tgt2 hK ho ht hf => ?_) (fun k off ho => ?_)
    · cases hf
    · match k, hK, ho with
      | 0, hK, ho =>
        cases hK
        have ho : (50 : Int) = off := Option.some.inj ho
        subst ho
        have ht : tgt2 = 72 := by omega
        subst ht
        refine j_aload_n hc dX11_man_72 rfl ?_
        refine j_getR (u := 3) hc dX11_man_73 (fgC_X11_19_0 _) (rC_0_1 _) ?_
        refine j_getR (u := 4) hc dX11_man_76 (fgC_X11_165_3 _) (rC_3_5 _) ?_
        refine j_iload_n hc dX11_man_79 rfl ?_
        refine j_iaload (n := 8) hc dX11_man_80 (kC_4 _) hf (fun v2 hf => ?_)
        exact j_ireturn hc dX11_man_81 rfl rfl hf
      | 1, hK, ho =>
        cases hK
        have ho : (60 : Int) = off := Option.some.inj ho
        subst ho
        have ht : tgt2 = 82 := by omega
        subst ht
        refine j_aload_n hc dX11_man_82 rfl ?_
        refine j_getR (u := 39) hc dX11_man_83 (fgC_X11_56_0 _) (rC_0_6 _) ?_
        refine j_getR (u := 40) hc dX11_man_86 (fgC_X11_168_39 _) (rC_39_2 _) ?_
        refine j_iload_n hc dX11_man_89 rfl ?_
        refine j_iaload (n := 8) hc dX11_man_90 (kC_40 _) hf (fun v3 hf => ?_)
        exact j_ireturn hc dX11_man_91 rfl rfl hf
      | 2, hK, ho =>
        cases hK
        have ho : (70 : Int) = off := Option.some.inj ho
        subst ho
        have ht : tgt2 = 92 := by omega
        subst ht
        refine j_aload_n hc dX11_man_92 rfl ?_
        refine j_getR (u := 3) hc dX11_man_93 (fgC_X11_19_0 _) (rC_0_1 _) ?_
        refine j_getR (u := 6) hc dX11_man_96 (fgC_X11_171_3 _) (rC_3_7 _) ?_
        refine j_iload_n hc dX11_man_99 rfl ?_
        refine j_iaload (n := 8) hc dX11_man_100 (kC_6 _) hf (fun v4 hf => ?_)
        exact j_ireturn hc dX11_man_101 rfl rfl hf
      | 3, hK, ho =>
        cases hK
        have ho : (80 : Int) = off := Option.some.inj ho
        subst ho
        have ht : tgt2 = 102 := by omega
        subst ht
        refine j_aload_n hc dX11_man_102 rfl ?_
        refine j_getR (u := 3) hc dX11_man_103 (fgC_X11_19_0 _) (rC_0_1 _) ?_
        refine j_getR (u := 7) hc dX11_man_106 (fgC_X11_174_3 _) (rC_3_8 _) ?_
        refine j_iload_n hc dX11_man_109 rfl ?_
        refine j_iaload (n := 8) hc dX11_man_110 (kC_7 _) hf (fun v5 hf => ?_)
        exact j_ireturn hc dX11_man_111 rfl rfl hf
      | 4, hK, ho =>
        cases hK
        have ho : (90 : Int) = off := Option.some.inj ho
        subst ho
        have ht : tgt2 = 112 := by omega
        subst ht
        refine j_aload_n hc dX11_man_112 rfl ?_
        refine j_getR (u := 3) hc dX11_man_113 (fgC_X11_19_0 _) (rC_0_1 _) ?_
        refine j_getR (u := 8) hc dX11_man_116 (fgC_X11_177_3 _) (rC_3_9 _) ?_
        refine j_iload_n hc dX11_man_119 rfl ?_
        refine j_iaload (n := 8) hc dX11_man_120 (kC_8 _) hf (fun v6 hf => ?_)
        exact j_ireturn hc dX11_man_121 rfl rfl hf
      | 5, hK, ho =>
        cases hK
        have ho : (100 : Int) = off := Option.some.inj ho
        subst ho
        have ht : tgt2 = 122 := by omega
        subst ht
        refine j_aload_n hc dX11_man_122 rfl ?_
        refine j_getR (u := 3) hc dX11_man_123 (fgC_X11_19_0 _) (rC_0_1 _) ?_
        refine j_getR (u := 9) hc dX11_man_126 (fgC_X11_180_3 _) (rC_3_10 _) ?_
        refine j_iload_n hc dX11_man_129 rfl ?_
        refine j_iaload (n := 8) hc dX11_man_130 (kC_9 _) hf (fun v7 hf => ?_)
        exact j_ireturn hc dX11_man_131 rfl rfl hf
      | 6, hK, ho =>
        cases hK
        have ho : (110 : Int) = off := Option.some.inj ho
        subst ho
        have ht : tgt2 = 132 := by omega
        subst ht
        refine j_aload_n hc dX11_man_132 rfl ?_
        refine j_getR (u := 39) hc dX11_man_133 (fgC_X11_56_0 _) (rC_0_6 _) ?_
        refine j_getR (u := 41) hc dX11_man_136 (fgC_X11_183_39 _) (rC_39_3 _) ?_
        refine j_iload_n hc dX11_man_139 rfl ?_
        refine j_iaload (n := 8) hc dX11_man_140 (kC_41 _) hf (fun v8 hf => ?_)
        exact j_ireturn hc dX11_man_141 rfl rfl hf
      | 7, hK, ho =>
        cases hK
        have ho : (120 : Int) = off := Option.some.inj ho
        subst ho
        have ht : tgt2 = 142 := by omega
        subst ht
        refine j_aload_n hc dX11_man_142 rfl ?_
        refine j_getR (u := 39) hc dX11_man_143 (fgC_X11_56_0 _) (rC_0_6 _) ?_
        refine j_iload_n hc dX11_man_146 rfl ?_
        refine j_callVI (t := 39) (As := [.int a1]) hc dX11_man_147 kw_995 mX7_didDeed (kC_39 _) clX7 rfl (by omega) (Nat.le_of_ble_eq_true rfl) (Nat.le_of_ble_eq_true rfl) ⟨Nat.le_refl _, Nat.le_refl _⟩ hf (fun v I' L' h => qX7_didDeed x.2.1 n d a1 I1 L1 v I' L' h) (fun v9 I9 L9 hf => ?_)
        refine j_if_eq (tgt := 157) hc dX11_man_150 rfl hf (fun hf => ?_) (fun hf => ?_)
        · refine j_iconst (v := (0 : Int32)) hc dX11_man_157 ci_0 ?_
          exact j_ireturn hc dX11_man_158 rfl rfl hf
        · refine j_iconst (v := (1 : Int32)) hc dX11_man_153 ci_1 ?_
          refine j_goto (tgt := 158) hc dX11_man_154 rfl ?_
          exact j_ireturn hc dX11_man_158 rfl rfl hf
      | 8, hK, ho =>
        cases hK
        have ho : (137 : Int) = off := Option.some.inj ho
        subst ho
        have ht : tgt2 = 159 := by omega
        subst ht
        refine j_aload_n hc dX11_man_159 rfl ?_
        refine j_getR (u := 39) hc dX11_man_160 (fgC_X11_56_0 _) (rC_0_6 _) ?_
        refine j_iload_n hc dX11_man_163 rfl ?_
        refine j_callVI (t := 39) (As := [.int a1]) hc dX11_man_164 kw_994 mX7_isHome (kC_39 _) clX7 rfl (by omega) (Nat.le_of_ble_eq_true rfl) (Nat.le_of_ble_eq_true rfl) ⟨Nat.le_refl _, Nat.le_refl _⟩ hf (fun v I' L' h => qX7_isHome x.2.1 n d a1 I1 L1 v I' L' h) (fun v10 I10 L10 hf => ?_)
        refine j_if_eq (tgt := 174) hc dX11_man_167 rfl hf (fun hf => ?_) (fun hf => ?_)
        · refine j_iconst (v := (0 : Int32)) hc dX11_man_174 ci_0 ?_
          exact j_ireturn hc dX11_man_175 rfl rfl hf
        · refine j_iconst (v := (1 : Int32)) hc dX11_man_170 ci_1 ?_
          refine j_goto (tgt := 175) hc dX11_man_171 rfl ?_
          exact j_ireturn hc dX11_man_175 rfl rfl hf
      | k + 9, hK, ho => simp at hK
    · match k, ho with
      | 0, ho => have ho : (50 : Int) = off := Option.some.inj ho; subst ho; exact ⟨72, rfl⟩
      | 1, ho => have ho : (60 : Int) = off := Option.some.inj ho; subst ho; exact ⟨82, rfl⟩
      | 2, ho => have ho : (70 : Int) = off := Option.some.inj ho; subst ho; exact ⟨92, rfl⟩
      | 3, ho => have ho : (80 : Int) = off := Option.some.inj ho; subst ho; exact ⟨102, rfl⟩
      | 4, ho => have ho : (90 : Int) = off := Option.some.inj ho; subst ho; exact ⟨112, rfl⟩
      | 5, ho => have ho : (100 : Int) = off := Option.some.inj ho; subst ho; exact ⟨122, rfl⟩
      | 6, ho => have ho : (110 : Int) = off := Option.some.inj ho; subst ho; exact ⟨132, rfl⟩
      | 7, ho => have ho : (120 : Int) = off := Option.some.inj ho; subst ho; exact ⟨142, rfl⟩
      | 8, ho => have ho : (137 : Int) = off := Option.some.inj ho; subst ho; exact ⟨159, rfl⟩
      | k + 9, ho => simp at ho
  · cases hf

set_option maxRecDepth 100000 in
theorem qX11_man (l : Launch) {al : Bool} (n d : Nat) (a1 : Int32) (a2 : Int32) (I : am_I) (L : am_L) (r : Int32) (I' : am_I) (L' : am_L) (hf : fX11_man n d a1 a2 I L = some (r, I', L')) : am_C l yX11_man cX11_man 3 (some .int) (d + 2) [.ref 0, .int a1, .int a2] (KC al) (RC al) I L (some (.int r)) I' L' := by
  exact am_intro (plainFor_of_name plX11) (fun _ _ => trivial) (Nat.le_of_ble_eq_true rfl) (fun x hl hc => by subst hl; exact j_sub (tX11_man n d hc _ _ _ _ hf) (And.intro rfl (And.intro rfl (And.intro rfl (trivial)))))
