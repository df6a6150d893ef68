set_option maxRecDepth 100000 in
def fX6_clear (n d : Nat) (I : am_I) (L : am_L) : Option (am_I × am_L) :=
  am_lt (am_up I 45 6 (0 : Int32)) (fun I1 => am_bl (0 : Int32) (am_lt (am_up I1 45 7 (0 : Int32)) (fun I2 => some (I2, L))))

set_option maxRecDepth 100000 in
set_option maxHeartbeats 4000000 in
theorem tX6_clear {x : am_X} {al : Bool} (n d : Nat) (hc : am_ok x cX6_clear yX6_clear 1 none (d + 1) 0 0) {I' : am_I} {L' : am_L} (I : am_I) (L : am_L) (hf : fX6_clear n d I L = some (I', L')) : am_J x (fun S => S = (none, (KC al), (RC al), I', L')) 0 [some (.ref 45)] [] (KC al) (RC al) I L 0 0 := by
  unfold fX6_clear at hf
  refine j_aload_n hc dX6_clear_0 rfl ?_
  refine j_iconst (v := (0 : Int32)) hc dX6_clear_1 ci_0 ?_
  refine j_putI hc dX6_clear_2 (fpC_X6_30_45 _) rfl rfl hf (fun I1 hf => ?_)
  refine j_aload_n hc dX6_clear_5 rfl ?_
  refine j_iconst (v := (0 : Int32)) hc dX6_clear_6 ci_0 ?_
  refine j_putZ hc dX6_clear_7 (fpC_X6_33_45 _) rfl hf (fun I2 hf => ?_)
  exact j_return hc dX6_clear_10 rfl rfl hf

set_option maxRecDepth 100000 in
theorem qX6_clear (l : Launch) {al : Bool} (n d : Nat) (I : am_I) (L : am_L) (I' : am_I) (L' : am_L) (hf : fX6_clear n d I L = some (I', L')) : am_C l yX6_clear cX6_clear 1 none (d + 1) [.ref 45] (KC al) (RC al) I L none I' L' := by
  exact am_intro (plainFor_of_name plX6) (fun _ _ => trivial) (Nat.le_of_ble_eq_true rfl) (fun x hl hc => by subst hl; exact j_sub (tX6_clear n d hc  _ _ hf) (And.intro rfl (trivial)))
set_option maxRecDepth 100000 in
def fX11_beginWar (n d : Nat) (I : am_I) (L : am_L) : Option (Int32 × am_I × am_L) :=
  am_b3 (fX10_read n d I L) (fun v1 I1 L1 => if v1 = (-1 : Int32) then
    (am_b2 (fX9_take_war_draft n d I1 L1) (fun I2 L2 => am_b2 (fX0_layOut_war n d I2 L2) (fun I3 L3 => am_b2 (fX7_begin n d I3 L3) (fun I4 L4 => am_b2 (fX5_clear n d I4 L4) (fun I5 L5 => am_b2 (fX6_clear n d I5 L5) (fun I6 L6 => am_lt (am_up I6 60 5 (0 : Int32)) (fun I7 => am_lt (am_up I7 1 1 (0 : Int32)) (fun I8 => some ((I8 3 0), I8, L6)))))))))
    else
    (some ((-1 : Int32), I1, L1)))

set_option maxRecDepth 100000 in
set_option maxHeartbeats 4000000 in
theorem tX11_beginWar {x : am_X} {al : Bool} (n d : Nat) (hc : am_ok x cX11_beginWar yX11_beginWar 1 (some .int) (d + 8) 0 0) {r : Int32} {I' : am_I} {L' : am_L} (I : am_I) (L : am_L) (hf : fX11_beginWar n d I L = some (r, I', L')) : am_J x (fun S => S = (some (.int r), (KC al), (RC al), I', L')) 0 [some (.ref 0)] [] (KC al) (RC al) I L 0 0 := by
  unfold fX11_beginWar at hf
  refine j_aload_n hc dX11_beginWar_0 rfl ?_
  refine j_getR (u := 25) hc dX11_beginWar_1 (fgC_X11_31_0 _) (rC_0_3 _) ?_
  refine j_callVI (t := 25) (As := []) hc dX11_beginWar_4 kw_571 mX10_read (kC_25 _) clX10 rfl (by omega) (Nat.le_of_ble_eq_true rfl) (Nat.le_of_ble_eq_true rfl) ⟨Nat.le_refl _, Nat.le_refl _⟩ hf (fun v I' L' h => qX10_read x.2.1 n d I L v I' L' h) (fun v1 I1 L1 hf => ?_)
  refine j_iconst (v := (-1 : Int32)) hc dX11_beginWar_7 ci_m1 ?_
  refine j_icmp_eq (tgt := 13) hc dX11_beginWar_8 rfl hf (fun hf => ?_) (fun hf => ?_)
  · refine j_aload_n hc dX11_beginWar_13 rfl ?_
    refine j_getR (u := 3) hc dX11_beginWar_14 (fgC_X11_19_0 _) (rC_0_1 _) ?_
    refine j_aload_n hc dX11_beginWar_17 rfl ?_
    refine j_getR (u := 14) hc dX11_beginWar_18 (fgC_X11_23_0 _) (rC_0_2 _) ?_
    refine j_callVV (t := 3) (As := [.ref 14]) hc dX11_beginWar_21 kw_806 mX9_take (kC_3 _) clX9 rfl (by omega) (Nat.le_of_ble_eq_true rfl) (Nat.le_of_ble_eq_true rfl) ⟨Nat.le_refl _, Nat.le_refl _⟩ hf (fun I' L' h => qX9_take_war_draft x.2.1 n d I1 L1 I' L' h) (fun I2 L2 hf => ?_)
    refine j_aload_n hc dX11_beginWar_24 rfl ?_
    refine j_getR (u := 51) hc dX11_beginWar_25 (fgC_X11_77_0 _) (rC_0_9 _) ?_
    refine j_aload_n hc dX11_beginWar_28 rfl ?_
    refine j_getR (u := 3) hc dX11_beginWar_29 (fgC_X11_19_0 _) (rC_0_1 _) ?_
    refine j_callVV (t := 51) (As := [.ref 3]) hc dX11_beginWar_32 kw_811 mX0_layOut (kC_51 _) clX0 rfl (by omega) (Nat.le_of_ble_eq_true rfl) (Nat.le_of_ble_eq_true rfl) ⟨Nat.le_refl _, Nat.le_refl _⟩ hf (fun I' L' h => qX0_layOut_war x.2.1 n d I2 L2 I' L' h) (fun I3 L3 hf => ?_)
    refine j_aload_n hc dX11_beginWar_35 rfl ?_
    refine j_getR (u := 39) hc dX11_beginWar_36 (fgC_X11_56_0 _) (rC_0_6 _) ?_
    refine j_callVV (t := 39) (As := []) hc dX11_beginWar_39 kw_815 mX7_begin (kC_39 _) clX7 rfl (by omega) (Nat.le_of_ble_eq_true rfl) (Nat.le_of_ble_eq_true rfl) ⟨Nat.le_refl _, Nat.le_refl _⟩ hf (fun I' L' h => qX7_begin x.2.1 n d I3 L3 I' L' h) (fun I4 L4 hf => ?_)
    refine j_aload_n hc dX11_beginWar_42 rfl ?_
    refine j_getR (u := 42) hc dX11_beginWar_43 (fgC_X11_63_0 _) (rC_0_7 _) ?_
    refine j_callVV (t := 42) (As := []) hc dX11_beginWar_46 kw_850 mX5_clear (kC_42 _) clX5 rfl (by omega) (Nat.le_of_ble_eq_true rfl) (Nat.le_of_ble_eq_true rfl) ⟨Nat.le_refl _, Nat.le_refl _⟩ hf (fun I' L' h => qX5_clear x.2.1 n d I4 L4 I' L' h) (fun I5 L5 hf => ?_)
    refine j_aload_n hc dX11_beginWar_49 rfl ?_
    refine j_getR (u := 45) hc dX11_beginWar_50 (fgC_X11_70_0 _) (rC_0_8 _) ?_
    refine j_callVV (t := 45) (As := []) hc dX11_beginWar_53 kw_854 mX6_clear (kC_45 _) clX6 rfl (by omega) (Nat.le_of_ble_eq_true rfl) (Nat.le_of_ble_eq_true rfl) ⟨Nat.le_refl _, Nat.le_refl _⟩ hf (fun I' L' h => qX6_clear x.2.1 n d I5 L5 I' L' h) (fun I6 L6 hf => ?_)
    refine j_aload_n hc dX11_beginWar_56 rfl ?_
    refine j_getR (u := 60) hc dX11_beginWar_57 (fgC_X11_93_0 _) (rC_0_11 _) ?_
    refine j_iconst (v := (0 : Int32)) hc dX11_beginWar_60 ci_0 ?_
    refine j_putI hc dX11_beginWar_61 (fpC_X11_150_60 _) rfl rfl hf (fun I7 hf => ?_)
    refine j_aload_n hc dX11_beginWar_64 rfl ?_
    refine j_getR (u := 1) hc dX11_beginWar_65 (fgC_X11_10_0 _) (rC_0_0 _) ?_
    refine j_iconst (v := (0 : Int32)) hc dX11_beginWar_68 ci_0 ?_
    refine j_putI hc dX11_beginWar_69 (fpC_X11_113_1 _) rfl rfl hf (fun I8 hf => ?_)
    refine j_aload_n hc dX11_beginWar_72 rfl ?_
    refine j_getR (u := 3) hc dX11_beginWar_73 (fgC_X11_19_0 _) (rC_0_1 _) ?_
    refine j_getI hc dX11_beginWar_76 (fgC_X11_151_3 _) ?_
    exact j_ireturn hc dX11_beginWar_79 rfl rfl hf
  · refine j_iconst (v := (-1 : Int32)) hc dX11_beginWar_11 ci_m1 ?_
    exact j_ireturn hc dX11_beginWar_12 rfl rfl hf

set_option maxRecDepth 100000 in
theorem qX11_beginWar (l : Launch) {al : Bool} (n d : Nat) (I : am_I) (L : am_L) (r : Int32) (I' : am_I) (L' : am_L) (hf : fX11_beginWar n d I L = some (r, I', L')) : am_C l yX11_beginWar cX11_beginWar 1 (some .int) (d + 8) [.ref 0] (KC al) (RC al) I L (some (.int r)) I' L' := by
  exact am_intro (plainFor_of_name plX11) (fun _ _ => trivial) (Nat.le_of_ble_eq_true rfl) (fun x hl hc => by subst hl; exact j_sub (tX11_beginWar n d hc  _ _ hf) (And.intro rfl (trivial)))
set_option maxRecDepth 100000 in
def fX3_add_lawText (n d : Nat) (I : am_I) (L : am_L) : Option (am_I × am_L) :=
  if (4 : Int32) ≤ (I 29 5) then
    (some (I, L))
    else
    (if (240 : Int32) < (I 27 2) then
      (some (I, L))
      else
      (if (0 : Int32) ≤ (I 27 2) then
        (am_ck (I 29 5) 4 (am_lt (31 + ((I 29 5)).toNatClampNeg) (fun u1 => am_cp (0 : Int32) (0 : Int32) (I 27 2) 240 240 (am_lt (am_cy I 28 u1 ((0 : Int32)).toNatClampNeg ((0 : Int32)).toNatClampNeg ((I 27 2)).toNatClampNeg) (fun I2 => am_ck (I2 29 5) 4 (am_lt (am_up I2 35 ((I2 29 5)).toNatClampNeg (I2 27 2)) (fun I3 => am_lt (am_up I3 29 5 ((I3 29 5) + (1 : Int32))) (fun I4 => some (I4, L)))))))))
        else
        (some (I, L))))

set_option maxRecDepth 100000 in
set_option maxHeartbeats 4000000 in
theorem tX3_add_lawText {x : am_X} {al : Bool} (n d : Nat) (hc : am_ok x cX3_add yX3_add 2 none (d + 1) 0 0) {I' : am_I} {L' : am_L} (I : am_I) (L : am_L) (hf : fX3_add_lawText n d I L = some (I', L')) : am_J x (fun S => S = (none, (KC al), (RC al), I', L')) 0 [some (.ref 29), some (.ref 27)] [] (KC al) (RC al) I L 0 0 := by
  unfold fX3_add_lawText at hf
  refine j_aload_n hc dX3_add_0 rfl ?_
  refine j_getI hc dX3_add_1 (fgC_X3_31_29 _) ?_
  refine j_iconst (v := (4 : Int32)) hc dX3_add_4 ci_4 ?_
  refine j_icmp_ge (tgt := 25) hc dX3_add_5 rfl hf (fun hf => ?_) (fun hf => ?_)
  · exact j_return hc dX3_add_25 rfl rfl hf
  · refine j_aload_n hc dX3_add_8 rfl ?_
    refine j_getI hc dX3_add_9 (fgC_X3_38_27 _) ?_
    refine j_sipush (v := (240 : Int32)) hc dX3_add_12 cs_240 ?_
    refine j_icmp_gt (tgt := 25) hc dX3_add_15 rfl hf (fun hf => ?_) (fun hf => ?_)
    · exact j_return hc dX3_add_25 rfl rfl hf
    · refine j_aload_n hc dX3_add_18 rfl ?_
      refine j_getI hc dX3_add_19 (fgC_X3_38_27 _) ?_
      refine j_if_ge (tgt := 26) hc dX3_add_22 rfl hf (fun hf => ?_) (fun hf => ?_)
      · refine j_aload_n hc dX3_add_26 rfl ?_
        refine j_getR (u := 28) hc dX3_add_27 (fgC_X3_43_27 _) (rC_27_1 _) ?_
        refine j_iconst (v := (0 : Int32)) hc dX3_add_30 ci_0 ?_
        refine j_aload_n hc dX3_add_31 rfl ?_
        refine j_getR (u := 30) hc dX3_add_32 (fgC_X3_15_29 _) (rC_29_0 _) ?_
        refine j_aload_n hc dX3_add_35 rfl ?_
        refine j_getI hc dX3_add_36 (fgC_X3_31_29 _) ?_
        refine j_aaload (t := 30) (n := 4) (b := 31) hc dX3_add_39 (kC_30 _) (rR_30 _) hf (fun u1 hu1 hf => ?_)
        refine j_iconst (v := (0 : Int32)) hc dX3_add_40 ci_0 ?_
        refine j_aload_n hc dX3_add_41 rfl ?_
        refine j_getI hc dX3_add_42 (fgC_X3_38_27 _) ?_
        refine j_copy (t0 := 28) (t1 := u1) (n0 := 240) (n1 := 240) hc dX3_add_45 kw_862 am_sys (kC_28 _) hu1 (by omega) (Nat.le_of_ble_eq_true rfl) hf (fun I2 hf => ?_)
        refine j_aload_n hc dX3_add_48 rfl ?_
        refine j_getR (u := 35) hc dX3_add_49 (fgC_X3_18_29 _) (rC_29_1 _) ?_
        refine j_aload_n hc dX3_add_52 rfl ?_
        refine j_getI hc dX3_add_53 (fgC_X3_31_29 _) ?_
        refine j_aload_n hc dX3_add_56 rfl ?_
        refine j_getI hc dX3_add_57 (fgC_X3_38_27 _) ?_
        refine j_iastore (n := 4) hc dX3_add_60 (kC_35 _) hf (fun I3 hf => ?_)
        refine j_aload_n hc dX3_add_61 rfl ?_
        refine j_dup hc dX3_add_62 rfl ?_
        refine j_getI hc dX3_add_63 (fgC_X3_31_29 _) ?_
        refine j_iconst (v := (1 : Int32)) hc dX3_add_66 ci_1 ?_
        refine j_iadd hc dX3_add_67 ?_
        refine j_putI hc dX3_add_68 (fpC_X3_31_29 _) rfl rfl hf (fun I4 hf => ?_)
        exact j_return hc dX3_add_71 rfl rfl hf
      · exact j_return hc dX3_add_25 rfl rfl hf

set_option maxRecDepth 100000 in
theorem qX3_add_lawText (l : Launch) {al : Bool} (n d : Nat) (I : am_I) (L : am_L) (I' : am_I) (L' : am_L) (hf : fX3_add_lawText n d I L = some (I', L')) : am_C l yX3_add cX3_add 2 none (d + 1) [.ref 29, .ref 27] (KC al) (RC al) I L none I' L' := by
  exact am_intro (plainFor_of_name plX3) (fun _ _ => trivial) (Nat.le_of_ble_eq_true rfl) (fun x hl hc => by subst hl; exact j_sub (tX3_add_lawText n d hc  _ _ hf) (And.intro rfl (And.intro rfl (trivial))))
set_option maxRecDepth 100000 in
def fX11_text (n d : Nat) (a1 : Int32) (I : am_I) (L : am_L) : Option (Int32 × am_I × am_L) :=
  if a1 = 0 then
    (am_b3 (fX11_beginWar n d I L) (fun v4 I4 L4 => some (v4, I4, L4)))
    else
    (if a1 = (1 : Int32) then
      (if (4 : Int32) ≤ (I 29 5) then
        (some ((-1 : Int32), I, L))
        else
        (am_b3 (fX2_read n d I L) (fun v1 I1 L1 => if v1 = (-1 : Int32) then
          (am_b2 (fX3_add_lawText n d I1 L1) (fun I2 L2 => am_lt (am_up I2 1 1 (0 : Int32)) (fun I3 => some (((I3 29 5) - (1 : Int32)), I3, L2))))
          else
          (some ((-1 : Int32), I1, L1)))))
      else
      (some ((-1 : Int32), I, L)))

set_option maxRecDepth 100000 in
set_option maxHeartbeats 4000000 in
theorem tX11_text {x : am_X} {al : Bool} (n d : Nat) (hc : am_ok x cX11_text yX11_text 2 (some .int) (d + 10) 0 0) {r : Int32} {I' : am_I} {L' : am_L} (a1 : Int32) (I : am_I) (L : am_L) (hf : fX11_text n d a1 I L = some (r, I', L')) : am_J x (fun S => S = (some (.int r), (KC al), (RC al), I', L')) 0 [some (.ref 0), some (.int a1)] [] (KC al) (RC al) I L 0 0 := by
  unfold fX11_text at hf
  refine j_iload_n hc dX11_text_0 rfl ?_
  refine j_if_ne (tgt := 9) hc dX11_text_1 rfl hf (fun hf => ?_) (fun hf => ?_)
  · refine j_iload_n hc dX11_text_9 rfl ?_
    refine j_iconst (v := (1 : Int32)) hc dX11_text_10 ci_1 ?_
    refine j_icmp_ne (tgt := 36) hc dX11_text_11 rfl hf (fun hf => ?_) (fun hf => ?_)
    · refine j_iconst (v := (-1 : Int32)) hc dX11_text_36 ci_m1 ?_
      exact j_ireturn hc dX11_text_37 rfl rfl hf
    · refine j_aload_n hc dX11_text_14 rfl ?_
      refine j_getR (u := 29) hc dX11_text_15 (fgC_X11_47_0 _) (rC_0_5 _) ?_
      refine j_getI hc dX11_text_18 (fgC_X11_129_29 _) ?_
      refine j_iconst (v := (4 : Int32)) hc dX11_text_21 ci_4 ?_
      refine j_icmp_ge (tgt := 36) hc dX11_text_22 rfl hf (fun hf => ?_) (fun hf => ?_)
      · refine j_iconst (v := (-1 : Int32)) hc dX11_text_36 ci_m1 ?_
        exact j_ireturn hc dX11_text_37 rfl rfl hf
      · refine j_aload_n hc dX11_text_25 rfl ?_
        refine j_getR (u := 27) hc dX11_text_26 (fgC_X11_40_0 _) (rC_0_4 _) ?_
        refine j_callVI (t := 27) (As := []) hc dX11_text_29 kw_729 mX2_read (kC_27 _) clX2 rfl (by omega) (Nat.le_of_ble_eq_true rfl) (Nat.le_of_ble_eq_true rfl) ⟨Nat.le_refl _, Nat.le_refl _⟩ hf (fun v I' L' h => qX2_read x.2.1 n d I L v I' L' h) (fun v1 I1 L1 hf => ?_)
        refine j_iconst (v := (-1 : Int32)) hc dX11_text_32 ci_m1 ?_
        refine j_icmp_eq (tgt := 38) hc dX11_text_33 rfl hf (fun hf => ?_) (fun hf => ?_)
        · refine j_aload_n hc dX11_text_38 rfl ?_
          refine j_getR (u := 29) hc dX11_text_39 (fgC_X11_47_0 _) (rC_0_5 _) ?_
          refine j_aload_n hc dX11_text_42 rfl ?_
          refine j_getR (u := 27) hc dX11_text_43 (fgC_X11_40_0 _) (rC_0_4 _) ?_
          refine j_callVV (t := 29) (As := [.ref 27]) hc dX11_text_46 kw_858 mX3_add (kC_29 _) clX3 rfl (by omega) (Nat.le_of_ble_eq_true rfl) (Nat.le_of_ble_eq_true rfl) ⟨Nat.le_refl _, Nat.le_refl _⟩ hf (fun I' L' h => qX3_add_lawText x.2.1 n d I1 L1 I' L' h) (fun I2 L2 hf => ?_)
          refine j_aload_n hc dX11_text_49 rfl ?_
          refine j_getR (u := 1) hc dX11_text_50 (fgC_X11_10_0 _) (rC_0_0 _) ?_
          refine j_iconst (v := (0 : Int32)) hc dX11_text_53 ci_0 ?_
          refine j_putI hc dX11_text_54 (fpC_X11_113_1 _) rfl rfl hf (fun I3 hf => ?_)
          refine j_aload_n hc dX11_text_57 rfl ?_
          refine j_getR (u := 29) hc dX11_text_58 (fgC_X11_47_0 _) (rC_0_5 _) ?_
          refine j_getI hc dX11_text_61 (fgC_X11_129_29 _) ?_
          refine j_iconst (v := (1 : Int32)) hc dX11_text_64 ci_1 ?_
          refine j_isub hc dX11_text_65 ?_
          exact j_ireturn hc dX11_text_66 rfl rfl hf
        · refine j_iconst (v := (-1 : Int32)) hc dX11_text_36 ci_m1 ?_
          exact j_ireturn hc dX11_text_37 rfl rfl hf
  · refine j_aload_n hc dX11_text_4 rfl ?_
    refine j_callVI (t := 0) (As := []) hc dX11_text_5 kw_802 mX11_beginWar (kC_0 _) clX11 rfl (by omega) (Nat.le_of_ble_eq_true rfl) (Nat.le_of_ble_eq_true rfl) ⟨Nat.le_refl _, Nat.le_refl _⟩ hf (fun v I' L' h => qX11_beginWar x.2.1 n d I L v I' L' h) (fun v4 I4 L4 hf => ?_)
    exact j_ireturn hc dX11_text_8 rfl rfl hf

set_option maxRecDepth 100000 in
theorem qX11_text (l : Launch) {al : Bool} (n d : Nat) (a1 : Int32) (I : am_I) (L : am_L) (r : Int32) (I' : am_I) (L' : am_L) (hf : fX11_text n d a1 I L = some (r, I', L')) : am_C l yX11_text cX11_text 2 (some .int) (d + 10) [.ref 0, .int a1] (KC al) (RC al) I L (some (.int r)) I' L' := by
  exact am_intro (plainFor_of_name plX11) (fun _ _ => trivial) (Nat.le_of_ble_eq_true rfl) (fun x hl hc => by subst hl; exact j_sub (tX11_text n d hc _ _ _ hf) (And.intro rfl (And.intro rfl (trivial))))
set_option maxRecDepth 100000 in
def fX11_orchard (n d : Nat) (a1 : Int32) (a2 : Int32) (I : am_I) (L : am_L) : Option (Int32 × am_I × am_L) :=
  if a1 < 0 then
    (some ((-1 : Int32), I, L))
    else
    (if (I 3 1) ≤ a1 then
      (some ((-1 : Int32), I, L))
      else
      (if a1 < (6 : Int32) then
        (if a2 = 0 then
          (am_ck a1 6 (am_lt (I 10 (a1).toNatClampNeg) (fun v2 => some (v2, I, L))))
          else
          (if a2 = (1 : Int32) then
            (am_ck a1 6 (am_lt (I 11 (a1).toNatClampNeg) (fun v1 => some (v1, I, L))))
            else
            (some ((-1 : Int32), I, L))))
        else
        (some ((-1 : Int32), I, L))))

set_option maxRecDepth 100000 in
set_option maxHeartbeats 4000000 in
theorem tX11_orchard {x : am_X} {al : Bool} (n d : Nat) (hc : am_ok x cX11_orchard yX11_orchard 3 (some .int) (d + 1) 0 0) {r : Int32} {I' : am_I} {L' : am_L} (a1 : Int32) (a2 : Int32) (I : am_I) (L : am_L) (hf : fX11_orchard n d a1 a2 I L = some (r, I', L')) : am_J x (fun S => S = (some (.int r), (KC al), (RC al), I', L')) 0 [some (.ref 0), some (.int a1), some (.int a2)] [] (KC al) (RC al) I L 0 0 := by
  unfold fX11_orchard at hf
  refine j_iload_n hc dX11_orchard_0 rfl ?_
  refine j_if_lt (tgt := 21) hc dX11_orchard_1 rfl hf (fun hf => ?_) (fun hf => ?_)
  · refine j_iconst (v := (-1 : Int32)) hc dX11_orchard_21 ci_m1 ?_
    exact j_ireturn hc dX11_orchard_22 rfl rfl hf
  · refine j_iload_n hc dX11_orchard_4 rfl ?_
    refine j_aload_n hc dX11_orchard_5 rfl ?_
    refine j_getR (u := 3) hc dX11_orchard_6 (fgC_X11_19_0 _) (rC_0_1 _) ?_
    refine j_getI hc dX11_orchard_9 (fgC_X11_194_3 _) ?_
    refine j_icmp_ge (tgt := 21) hc dX11_orchard_12 rfl hf (fun hf => ?_) (fun hf => ?_)
    · refine j_iconst (v := (-1 : Int32)) hc dX11_orchard_21 ci_m1 ?_
      exact j_ireturn hc dX11_orchard_22 rfl rfl hf
    · refine j_iload_n hc dX11_orchard_15 rfl ?_
      refine j_bipush (v := (6 : Int32)) hc dX11_orchard_16 cb_6 ?_
      refine j_icmp_lt (tgt := 23) hc dX11_orchard_18 rfl hf (fun hf => ?_) (fun hf => ?_)
      · refine j_iload_n hc dX11_orchard_23 rfl ?_
        refine j_if_ne (tgt := 37) hc dX11_orchard_24 rfl hf (fun hf => ?_) (fun hf => ?_)
        · refine j_iload_n hc dX11_orchard_37 rfl ?_
          refine j_iconst (v := (1 : Int32)) hc dX11_orchard_38 ci_1 ?_
          refine j_icmp_ne (tgt := 54) hc dX11_orchard_39 rfl hf (fun hf => ?_) (fun hf => ?_)
          · refine j_iconst (v := (-1 : Int32)) hc dX11_orchard_54 ci_m1 ?_
            exact j_ireturn hc dX11_orchard_55 rfl rfl hf
          · refine j_aload_n hc dX11_orchard_42 rfl ?_
            refine j_getR (u := 3) hc dX11_orchard_43 (fgC_X11_19_0 _) (rC_0_1 _) ?_
            refine j_getR (u := 11) hc dX11_orchard_46 (fgC_X11_200_3 _) (rC_3_12 _) ?_
            refine j_iload_n hc dX11_orchard_49 rfl ?_
            refine j_iaload (n := 6) hc dX11_orchard_50 (kC_11 _) hf (fun v1 hf => ?_)
            refine j_goto (tgt := 55) hc dX11_orchard_51 rfl ?_
            exact j_ireturn hc dX11_orchard_55 rfl rfl hf
        · refine j_aload_n hc dX11_orchard_27 rfl ?_
          refine j_getR (u := 3) hc dX11_orchard_28 (fgC_X11_19_0 _) (rC_0_1 _) ?_
          refine j_getR (u := 10) hc dX11_orchard_31 (fgC_X11_197_3 _) (rC_3_11 _) ?_
          refine j_iload_n hc dX11_orchard_34 rfl ?_
          refine j_iaload (n := 6) hc dX11_orchard_35 (kC_10 _) hf (fun v2 hf => ?_)
          exact j_ireturn hc dX11_orchard_36 rfl rfl hf
      · refine j_iconst (v := (-1 : Int32)) hc dX11_orchard_21 ci_m1 ?_
        exact j_ireturn hc dX11_orchard_22 rfl rfl hf

set_option maxRecDepth 100000 in
theorem qX11_orchard (l : Launch) {al : Bool} (n d : Nat) (a1 : Int32) (a2 : Int32) (I : am_I) (L : am_L) (r : Int32) (I' : am_I) (L' : am_L) (hf : fX11_orchard n d a1 a2 I L = some (r, I', L')) : am_C l yX11_orchard cX11_orchard 3 (some .int) (d + 1) [.ref 0, .int a1, .int a2] (KC al) (RC al) I L (some (.int r)) I' L' := by
  exact am_intro (plainFor_of_name plX11) (fun _ _ => trivial) (Nat.le_of_ble_eq_true rfl) (fun x hl hc => by subst hl; exact j_sub (tX11_orchard n d hc _ _ _ _ hf) (And.intro rfl (And.intro rfl (And.intro rfl (trivial)))))
set_option maxRecDepth 100000 in
def fX11_law_b18 (n d : Nat) (a1 : Int32) (I : am_I) (L : am_L) : Option (Int32 × am_I × am_L) :=
  am_lt (am_up I 29 6 a1) (fun I1 => am_b2 (fX7_lookAtAll n d I1 L) (fun I2 L2 => some ((1 : Int32), I2, L2)))

set_option maxRecDepth 100000 in
set_option maxHeartbeats 4000000 in
theorem tX11_law_b18 {x : am_X} {al : Bool} (n d : Nat) (hc : am_ok x cX11_law yX11_law 2 (some .boolean) (d + 6) 0 0) {r : Int32} {I' : am_I} {L' : am_L} (a1 : Int32) (I : am_I) (L : am_L) (hf : fX11_law_b18 n d a1 I L = some (r, I', L')) : am_J x (fun S => S = (some (.int r), (KC al), (RC al), I', L')) 18 [some (.ref 0), some (.int a1)] [] (KC al) (RC al) I L 0 0 := by
  unfold fX11_law_b18 at hf
  refine j_aload_n hc dX11_law_18 rfl ?_
  refine j_getR (u := 29) hc dX11_law_19 (fgC_X11_47_0 _) (rC_0_5 _) ?_
  refine j_iload_n hc dX11_law_22 rfl ?_
  refine j_putI hc dX11_law_23 (fpC_X11_206_29 _) rfl rfl hf (fun I1 hf => ?_)
  refine j_aload_n hc dX11_law_26 rfl ?_
  refine j_getR (u := 39) hc dX11_law_27 (fgC_X11_56_0 _) (rC_0_6 _) ?_
  refine j_callVV (t := 39) (As := []) hc dX11_law_30 kw_872 mX7_lookAtAll (kC_39 _) clX7 rfl (by omega) (Nat.le_of_ble_eq_true rfl) (Nat.le_of_ble_eq_true rfl) ⟨Nat.le_refl _, Nat.le_refl _⟩ hf (fun I' L' h => qX7_lookAtAll x.2.1 n d I1 L I' L' h) (fun I2 L2 hf => ?_)
  refine j_iconst (v := (1 : Int32)) hc dX11_law_33 ci_1 ?_
  exact j_zret hc dX11_law_34 rfl rfl (Or.inr rfl) hf

set_option maxRecDepth 100000 in
def fX11_law (n d : Nat) (a1 : Int32) (I : am_I) (L : am_L) : Option (Int32 × am_I × am_L) :=
  if a1 = (-1 : Int32) then
    (fX11_law_b18 n d a1 I L)
    else
    (am_b3 (fX3_has n d a1 I L) (fun v1 I1 L1 => if v1 = 0 then
      (some ((0 : Int32), I1, L1))
      else
      (fX11_law_b18 n d a1 I1 L1)))

set_option maxRecDepth 100000 in
set_option maxHeartbeats 4000000 in
theorem tX11_law {x : am_X} {al : Bool} (n d : Nat) (hc : am_ok x cX11_law yX11_law 2 (some .boolean) (d + 6) 0 0) {r : Int32} {I' : am_I} {L' : am_L} (a1 : Int32) (I : am_I) (L : am_L) (hf : fX11_law n d a1 I L = some (r, I', L')) : am_J x (fun S => S = (some (.int r), (KC al), (RC al), I', L')) 0 [some (.ref 0), some (.int a1)] [] (KC al) (RC al) I L 0 0 := by
  unfold fX11_law at hf
  refine j_iload_n hc dX11_law_0 rfl ?_
  refine j_iconst (v := (-1 : Int32)) hc dX11_law_1 ci_m1 ?_
  refine j_icmp_eq (tgt := 18) hc dX11_law_2 rfl hf (fun hf => ?_) (fun hf => ?_)
  · exact j_sub (tX11_law_b18 n d hc _ _ _ hf) (And.intro rfl (And.intro rfl (trivial)))
  · refine j_aload_n hc dX11_law_5 rfl ?_
    refine j_getR (u := 29) hc dX11_law_6 (fgC_X11_47_0 _) (rC_0_5 _) ?_
    refine j_iload_n hc dX11_law_9 rfl ?_
    refine j_callVI (t := 29) (As := [.int a1]) hc dX11_law_10 kw_871 mX3_has (kC_29 _) clX3 rfl (by omega) (Nat.le_of_ble_eq_true rfl) (Nat.le_of_ble_eq_true rfl) ⟨Nat.le_refl _, Nat.le_refl _⟩ hf (fun v I' L' h => qX3_has x.2.1 n d a1 I L v I' L' h) (fun v1 I1 L1 hf => ?_)
    refine j_if_ne (tgt := 18) hc dX11_law_13 rfl hf (fun hf => ?_) (fun hf => ?_)
    · exact j_sub (tX11_law_b18 n d hc _ _ _ hf) (And.intro rfl (And.intro rfl (trivial)))
    · refine j_iconst (v := (0 : Int32)) hc dX11_law_16 ci_0 ?_
      exact j_zret hc dX11_law_17 rfl rfl (Or.inl rfl) hf

set_option maxRecDepth 100000 in
theorem qX11_law (l : Launch) {al : Bool} (n d : Nat) (a1 : Int32) (I : am_I) (L : am_L) (r : Int32) (I' : am_I) (L' : am_L) (hf : fX11_law n d a1 I L = some (r, I', L')) : am_C l yX11_law cX11_law 2 (some .boolean) (d + 6) [.ref 0, .int a1] (KC al) (RC al) I L (some (.int r)) I' L' := by
  exact am_intro (plainFor_of_name plX11) (fun _ _ => trivial) (Nat.le_of_ble_eq_true rfl) (fun x hl hc => by subst hl; exact j_sub (tX11_law n d hc _ _ _ hf) (And.intro rfl (And.intro rfl (trivial))))
set_option maxRecDepth 100000 in
def fX7_winner_b61 (n d : Nat) (s0 : Int32) (a1 : Int32) (I : am_I) (L : am_L) : Option (Int32 × am_I × am_L) :=
  am_lt s0 (fun v1 => if a1 = 0 then
    (if v1 = 0 then
      (some ((-1 : Int32), I, L))
      else
      (some ((0 : Int32), I, L)))
    else
    (if v1 = 0 then
      (some ((1 : Int32), I, L))
      else
      (some ((2 : Int32), I, L))))

set_option maxRecDepth 100000 in
set_option maxHeartbeats 4000000 in
theorem tX7_winner_b61 {x : am_X} {al : Bool} (n d : Nat) (hc : am_ok x cX7_winner yX7_winner 3 (some .int) (d + 1) 0 0) {r : Int32} {I' : am_I} {L' : am_L} (s0 : Int32) (a1 : Int32) (I : am_I) (L : am_L) (hf : fX7_winner_b61 n d s0 a1 I L = some (r, I', L')) : am_J x (fun S => S = (some (.int r), (KC al), (RC al), I', L')) 61 [none, some (.int a1), none] [.int s0] (KC al) (RC al) I L 0 0 := by
  unfold fX7_winner_b61 at hf
  refine j_istore_n hc dX7_winner_61 (Nat.le_of_ble_eq_true rfl) hf (fun v1 hf => ?_)
  refine j_iload_n hc dX7_winner_62 rfl ?_
  refine j_if_eq (tgt := 76) hc dX7_winner_63 rfl hf (fun hf => ?_) (fun hf => ?_)
  · refine j_iload_n hc dX7_winner_76 rfl ?_
    refine j_if_eq (tgt := 84) hc dX7_winner_77 rfl hf (fun hf => ?_) (fun hf => ?_)
    · refine j_iconst (v := (-1 : Int32)) hc dX7_winner_84 ci_m1 ?_
      exact j_ireturn hc dX7_winner_85 rfl rfl hf
    · refine j_iconst (v := (0 : Int32)) hc dX7_winner_80 ci_0 ?_
      refine j_goto (tgt := 85) hc dX7_winner_81 rfl ?_
      exact j_ireturn hc dX7_winner_85 rfl rfl hf
  · refine j_iload_n hc dX7_winner_66 rfl ?_
    refine j_if_eq (tgt := 74) hc dX7_winner_67 rfl hf (fun hf => ?_) (fun hf => ?_)
    · refine j_iconst (v := (1 : Int32)) hc dX7_winner_74 ci_1 ?_
      exact j_ireturn hc dX7_winner_75 rfl rfl hf
    · refine j_iconst (v := (2 : Int32)) hc dX7_winner_70 ci_2 ?_
      refine j_goto (tgt := 75) hc dX7_winner_71 rfl ?_
      exact j_ireturn hc dX7_winner_75 rfl rfl hf

set_option maxRecDepth 100000 in
def fX7_winner_b36 (n d : Nat) (s0 : Int32) (I : am_I) (L : am_L) : Option (Int32 × am_I × am_L) :=
  am_lt s0 (fun v1 => am_ck (1 : Int32) 2 (am_lt (I 13 ((1 : Int32)).toNatClampNeg) (fun v2 => if (v2 &&& ((I 39 6) ^^^ (-1 : Int32))) = 0 then
    (fX7_winner_b61 n d (1 : Int32) v1 I L)
    else
    (fX7_winner_b61 n d (0 : Int32) v1 I L))))

set_option maxRecDepth 100000 in
set_option maxHeartbeats 4000000 in
theorem tX7_winner_b36 {x : am_X} {al : Bool} (n d : Nat) (hc : am_ok x cX7_winner yX7_winner 3 (some .int) (d + 1) 0 0) {r : Int32} {I' : am_I} {L' : am_L} (s0 : Int32) (I : am_I) (L : am_L) (hf : fX7_winner_b36 n d s0 I L = some (r, I', L')) : am_J x (fun S => S = (some (.int r), (KC al), (RC al), I', L')) 36 [some (.ref 39), none, none] [.int s0] (KC al) (RC al) I L 0 0 := by
  unfold fX7_winner_b36 at hf
  refine j_istore_n hc dX7_winner_36 (Nat.le_of_ble_eq_true rfl) hf (fun v1 hf => ?_)
  refine j_aload_n hc dX7_winner_37 rfl ?_
  refine j_getR (u := 3) hc dX7_winner_38 (fgC_X7_30_39 _) (rC_39_0 _) ?_
  refine j_getR (u := 13) hc dX7_winner_41 (fgC_X7_88_3 _) (rC_3_14 _) ?_
  refine j_iconst (v := (1 : Int32)) hc dX7_winner_44 ci_1 ?_
  refine j_iaload (n := 2) hc dX7_winner_45 (kC_13 _) hf (fun v2 hf => ?_)
  refine j_aload_n hc dX7_winner_46 rfl ?_
  refine j_getI hc dX7_winner_47 (fgC_X7_27_39 _) ?_
  refine j_iconst (v := (-1 : Int32)) hc dX7_winner_50 ci_m1 ?_
  refine j_ixor hc dX7_winner_51 ?_
  refine j_iand hc dX7_winner_52 ?_
  refine j_if_ne (tgt := 60) hc dX7_winner_53 rfl hf (fun hf => ?_) (fun hf => ?_)
  · refine j_iconst (v := (0 : Int32)) hc dX7_winner_60 ci_0 ?_
    exact j_sub (tX7_winner_b61 n d hc _ _ _ _ hf) (And.intro rfl (trivial))
  · refine j_iconst (v := (1 : Int32)) hc dX7_winner_56 ci_1 ?_
    refine j_goto (tgt := 61) hc dX7_winner_57 rfl ?_
    exact j_sub (tX7_winner_b61 n d hc _ _ _ _ hf) (And.intro rfl (trivial))

set_option maxRecDepth 100000 in
def fX7_winner (n d : Nat) (I : am_I) (L : am_L) : Option (Int32 × am_I × am_L) :=
  if (I 3 0) = 0 then
    (some ((-1 : Int32), I, L))
    else
    (am_ck (0 : Int32) 2 (am_lt (I 13 ((0 : Int32)).toNatClampNeg) (fun v1 => if (v1 &&& ((I 39 6) ^^^ (-1 : Int32))) = 0 then
      (fX7_winner_b36 n d (1 : Int32) I L)
      else
      (fX7_winner_b36 n d (0 : Int32) I L))))

set_option maxRecDepth 100000 in
set_option maxHeartbeats 4000000 in
theorem tX7_winner {x : am_X} {al : Bool} (n d : Nat) (hc : am_ok x cX7_winner yX7_winner 3 (some .int) (d + 1) 0 0) {r : Int32} {I' : am_I} {L' : am_L} (I : am_I) (L : am_L) (hf : fX7_winner n d I L = some (r, I', L')) : am_J x (fun S => S = (some (.int r), (KC al), (RC al), I', L')) 0 [some (.ref 39), none, none] [] (KC al) (RC al) I L 0 0 := by
  unfold fX7_winner at hf
  refine j_aload_n hc dX7_winner_0 rfl ?_
  refine j_getR (u := 3) hc dX7_winner_1 (fgC_X7_30_39 _) (rC_39_0 _) ?_
  refine j_getI hc dX7_winner_4 (fgC_X7_38_3 _) ?_
  refine j_if_ne (tgt := 12) hc dX7_winner_7 rfl hf (fun hf => ?_) (fun hf => ?_)
  · refine j_aload_n hc dX7_winner_12 rfl ?_
    refine j_getR (u := 3) hc dX7_winner_13 (fgC_X7_30_39 _) (rC_39_0 _) ?_
    refine j_getR (u := 13) hc dX7_winner_16 (fgC_X7_88_3 _) (rC_3_14 _) ?_
    refine j_iconst (v := (0 : Int32)) hc dX7_winner_19 ci_0 ?_
    refine j_iaload (n := 2) hc dX7_winner_20 (kC_13 _) hf (fun v1 hf => ?_)
    refine j_aload_n hc dX7_winner_21 rfl ?_
    refine j_getI hc dX7_winner_22 (fgC_X7_27_39 _) ?_
    refine j_iconst (v := (-1 : Int32)) hc dX7_winner_25 ci_m1 ?_
    refine j_ixor hc dX7_winner_26 ?_
    refine j_iand hc dX7_winner_27 ?_
    refine j_if_ne (tgt := 35) hc dX7_winner_28 rfl hf (fun hf => ?_) (fun hf => ?_)
    · refine j_iconst (v := (0 : Int32)) hc dX7_winner_35 ci_0 ?_
      exact j_sub (tX7_winner_b36 n d hc _ _ _ hf) (And.intro rfl (trivial))
    · refine j_iconst (v := (1 : Int32)) hc dX7_winner_31 ci_1 ?_
      refine j_goto (tgt := 36) hc dX7_winner_32 rfl ?_
      exact j_sub (tX7_winner_b36 n d hc _ _ _ hf) (And.intro rfl (trivial))
  · refine j_iconst (v := (-1 : Int32)) hc dX7_winner_10 ci_m1 ?_
    exact j_ireturn hc dX7_winner_11 rfl rfl hf

set_option maxRecDepth 100000 in
theorem qX7_winner (l : Launch) {al : Bool} (n d : Nat) (I : am_I) (L : am_L) (r : Int32) (I' : am_I) (L' : am_L) (hf : fX7_winner n d I L = some (r, I', L')) : am_C l yX7_winner cX7_winner 3 (some .int) (d + 1) [.ref 39] (KC al) (RC al) I L (some (.int r)) I' L' := by
  exact am_intro (plainFor_of_name plX7) (fun _ _ => trivial) (Nat.le_of_ble_eq_true rfl) (fun x hl hc => by subst hl; exact j_sub (tX7_winner n d hc  _ _ hf) (And.intro rfl (trivial)))
set_option maxRecDepth 100000 in
def fX11_won (n d : Nat) (I : am_I) (L : am_L) : Option (Int32 × am_I × am_L) :=
  am_b3 (fX7_winner n d I L) (fun v1 I1 L1 => some (v1, I1, L1))

set_option maxRecDepth 100000 in
set_option maxHeartbeats 4000000 in
theorem tX11_won {x : am_X} {al : Bool} (n d : Nat) (hc : am_ok x cX11_won yX11_won 1 (some .int) (d + 2) 0 0) {r : Int32} {I' : am_I} {L' : am_L} (I : am_I) (L : am_L) (hf : fX11_won n d I L = some (r, I', L')) : am_J x (fun S => S = (some (.int r), (KC al), (RC al), I', L')) 0 [some (.ref 0)] [] (KC al) (RC al) I L 0 0 := by
  unfold fX11_won at hf
  refine j_aload_n hc dX11_won_0 rfl ?_
  refine j_getR (u := 39) hc dX11_won_1 (fgC_X11_56_0 _) (rC_0_6 _) ?_
  refine j_callVI (t := 39) (As := []) hc dX11_won_4 kw_877 mX7_winner (kC_39 _) clX7 rfl (by omega) (Nat.le_of_ble_eq_true rfl) (Nat.le_of_ble_eq_true rfl) ⟨Nat.le_refl _, Nat.le_refl _⟩ hf (fun v I' L' h => qX7_winner x.2.1 n d I L v I' L' h) (fun v1 I1 L1 hf => ?_)
  exact j_ireturn hc dX11_won_7 rfl rfl hf

set_option maxRecDepth 100000 in
theorem qX11_won (l : Launch) {al : Bool} (n d : Nat) (I : am_I) (L : am_L) (r : Int32) (I' : am_I) (L' : am_L) (hf : fX11_won n d I L = some (r, I', L')) : am_C l yX11_won cX11_won 1 (some .int) (d + 2) [.ref 0] (KC al) (RC al) I L (some (.int r)) I' L' := by
  exact am_intro (plainFor_of_name plX11) (fun _ _ => trivial) (Nat.le_of_ble_eq_true rfl) (fun x hl hc => by subst hl; exact j_sub (tX11_won n d hc  _ _ hf) (And.intro rfl (trivial)))
set_option maxRecDepth 100000 in
def fX9_hasMan_war (n d : Nat) (a1 : Int32) (I : am_I) (L : am_L) : Option (Int32 × am_I × am_L) :=
  if a1 < 0 then
    (some ((0 : Int32), I, L))
    else
    (if (I 3 0) ≤ a1 then
      (some ((0 : Int32), I, L))
      else
      (if (8 : Int32) ≤ a1 then
        (some ((0 : Int32), I, L))
        else
        (some ((1 : Int32), I, L))))

set_option maxRecDepth 100000 in
set_option maxHeartbeats 4000000 in
theorem tX9_hasMan_war {x : am_X} {al : Bool} (n d : Nat) (hc : am_ok x cX9_hasMan yX9_hasMan 2 (some .boolean) (d + 1) 0 0) {r : Int32} {I' : am_I} {L' : am_L} (a1 : Int32) (I : am_I) (L : am_L) (hf : fX9_hasMan_war n d a1 I L = some (r, I', L')) : am_J x (fun S => S = (some (.int r), (KC al), (RC al), I', L')) 0 [some (.ref 3), some (.int a1)] [] (KC al) (RC al) I L 0 0 := by
  unfold fX9_hasMan_war at hf
  refine j_iload_n hc dX9_hasMan_0 rfl ?_
  refine j_if_lt (tgt := 22) hc dX9_hasMan_1 rfl hf (fun hf => ?_) (fun hf => ?_)
  · refine j_iconst (v := (0 : Int32)) hc dX9_hasMan_22 ci_0 ?_
    exact j_zret hc dX9_hasMan_23 rfl rfl (Or.inl rfl) hf
  · refine j_iload_n hc dX9_hasMan_4 rfl ?_
    refine j_aload_n hc dX9_hasMan_5 rfl ?_
    refine j_getI hc dX9_hasMan_6 (fgC_X9_7_3 _) ?_
    refine j_icmp_ge (tgt := 22) hc dX9_hasMan_9 rfl hf (fun hf => ?_) (fun hf => ?_)
    · refine j_iconst (v := (0 : Int32)) hc dX9_hasMan_22 ci_0 ?_
      exact j_zret hc dX9_hasMan_23 rfl rfl (Or.inl rfl) hf
    · refine j_iload_n hc dX9_hasMan_12 rfl ?_
      refine j_bipush (v := (8 : Int32)) hc dX9_hasMan_13 cb_8 ?_
      refine j_icmp_ge (tgt := 22) hc dX9_hasMan_15 rfl hf (fun hf => ?_) (fun hf => ?_)
      · refine j_iconst (v := (0 : Int32)) hc dX9_hasMan_22 ci_0 ?_
        exact j_zret hc dX9_hasMan_23 rfl rfl (Or.inl rfl) hf
      · refine j_iconst (v := (1 : Int32)) hc dX9_hasMan_18 ci_1 ?_
        refine j_goto (tgt := 23) hc dX9_hasMan_19 rfl ?_
        exact j_zret hc dX9_hasMan_23 rfl rfl (Or.inr rfl) hf

set_option maxRecDepth 100000 in
theorem qX9_hasMan_war (l : Launch) {al : Bool} (n d : Nat) (a1 : Int32) (I : am_I) (L : am_L) (r : Int32) (I' : am_I) (L' : am_L) (hf : fX9_hasMan_war n d a1 I L = some (r, I', L')) : am_C l yX9_hasMan cX9_hasMan 2 (some .boolean) (d + 1) [.ref 3, .int a1] (KC al) (RC al) I L (some (.int r)) I' L' := by
  exact am_intro (plainFor_of_name plX9) (fun _ _ => trivial) (Nat.le_of_ble_eq_true rfl) (fun x hl hc => by subst hl; exact j_sub (tX9_hasMan_war n d hc _ _ _ hf) (And.intro rfl (And.intro rfl (trivial))))
set_option maxRecDepth 100000 in
def fX7_isHome (n d : Nat) (a1 : Int32) (I : am_I) (L : am_L) : Option (Int32 × am_I × am_L) :=
  if (((I 39 6) >>> (a1 &&& 31)) &&& (1 : Int32)) = 0 then
    (some ((0 : Int32), I, L))
    else
    (some ((1 : Int32), I, L))

set_option maxRecDepth 100000 in
set_option maxHeartbeats 4000000 in
theorem tX7_isHome {x : am_X} {al : Bool} (n d : Nat) (hc : am_ok x cX7_isHome yX7_isHome 2 (some .boolean) (d + 1) 0 0) {r : Int32} {I' : am_I} {L' : am_L} (a1 : Int32) (I : am_I) (L : am_L) (hf : fX7_isHome n d a1 I L = some (r, I', L')) : am_J x (fun S => S = (some (.int r), (KC al), (RC al), I', L')) 0 [some (.ref 39), some (.int a1)] [] (KC al) (RC al) I L 0 0 := by
  unfold fX7_isHome at hf
  refine j_aload_n hc dX7_isHome_0 rfl ?_
  refine j_getI hc dX7_isHome_1 (fgC_X7_27_39 _) ?_
  refine j_iload_n hc dX7_isHome_4 rfl ?_
  refine j_ishr hc dX7_isHome_5 ?_
  refine j_iconst (v := (1 : Int32)) hc dX7_isHome_6 ci_1 ?_
  refine j_iand hc dX7_isHome_7 ?_
  refine j_if_eq (tgt := 15) hc dX7_isHome_8 rfl hf (fun hf => ?_) (fun hf => ?_)
  · refine j_iconst (v := (0 : Int32)) hc dX7_isHome_15 ci_0 ?_
    exact j_zret hc dX7_isHome_16 rfl rfl (Or.inl rfl) hf
  · refine j_iconst (v := (1 : Int32)) hc dX7_isHome_11 ci_1 ?_
    refine j_goto (tgt := 16) hc dX7_isHome_12 rfl ?_
    exact j_zret hc dX7_isHome_16 rfl rfl (Or.inr rfl) hf

set_option maxRecDepth 100000 in
theorem qX7_isHome (l : Launch) {al : Bool} (n d : Nat) (a1 : Int32) (I : am_I) (L : am_L) (r : Int32) (I' : am_I) (L' : am_L) (hf : fX7_isHome n d a1 I L = some (r, I', L')) : am_C l yX7_isHome cX7_isHome 2 (some .boolean) (d + 1) [.ref 39, .int a1] (KC al) (RC al) I L (some (.int r)) I' L' := by
  exact am_intro (plainFor_of_name plX7) (fun _ _ => trivial) (Nat.le_of_ble_eq_true rfl) (fun x hl hc => by subst hl; exact j_sub (tX7_isHome n d hc _ _ _ hf) (And.intro rfl (And.intro rfl (trivial))))
set_option maxRecDepth 100000 in
def fX7_didDeed (n d : Nat) (a1 : Int32) (I : am_I) (L : am_L) : Option (Int32 × am_I × am_L) :=
  if (((I 39 4) >>> (a1 &&& 31)) &&& (1 : Int32)) = 0 then
    (some ((0 : Int32), I, L))
    else
    (some ((1 : Int32), I, L))

set_option maxRecDepth 100000 in
set_option maxHeartbeats 4000000 in
theorem tX7_didDeed {x : am_X} {al : Bool} (n d : Nat) (hc : am_ok x cX7_didDeed yX7_didDeed 2 (some .boolean) (d + 1) 0 0) {r : Int32} {I' : am_I} {L' : am_L} (a1 : Int32) (I : am_I) (L : am_L) (hf : fX7_didDeed n d a1 I L = some (r, I', L')) : am_J x (fun S => S = (some (.int r), (KC al), (RC al), I', L')) 0 [some (.ref 39), some (.int a1)] [] (KC al) (RC al) I L 0 0 := by
  unfold fX7_didDeed at hf
  refine j_aload_n hc dX7_didDeed_0 rfl ?_
  refine j_getI hc dX7_didDeed_1 (fgC_X7_20_39 _) ?_
  refine j_iload_n hc dX7_didDeed_4 rfl ?_
  refine j_ishr hc dX7_didDeed_5 ?_
  refine j_iconst (v := (1 : Int32)) hc dX7_didDeed_6 ci_1 ?_
  refine j_iand hc dX7_didDeed_7 ?_
  refine j_if_eq (tgt := 15) hc dX7_didDeed_8 rfl hf (fun hf => ?_) (fun hf => ?_)
  · refine j_iconst (v := (0 : Int32)) hc dX7_didDeed_15 ci_0 ?_
    exact j_zret hc dX7_didDeed_16 rfl rfl (Or.inl rfl) hf
  · refine j_iconst (v := (1 : Int32)) hc dX7_didDeed_11 ci_1 ?_
    refine j_goto (tgt := 16) hc dX7_didDeed_12 rfl ?_
    exact j_zret hc dX7_didDeed_16 rfl rfl (Or.inr rfl) hf

set_option maxRecDepth 100000 in
theorem qX7_didDeed (l : Launch) {al : Bool} (n d : Nat) (a1 : Int32) (I : am_I) (L : am_L) (r : Int32) (I' : am_I) (L' : am_L) (hf : fX7_didDeed n d a1 I L = some (r, I', L')) : am_C l yX7_didDeed cX7_didDeed 2 (some .boolean) (d + 1) [.ref 39, .int a1] (KC al) (RC al) I L (some (.int r)) I' L' := by
  exact am_intro (plainFor_of_name plX7) (fun _ _ => trivial) (Nat.le_of_ble_eq_true rfl) (fun x hl hc => by subst hl; exact j_sub (tX7_didDeed n d hc _ _ _ hf) (And.intro rfl (And.intro rfl (trivial))))
set_option maxRecDepth 100000 in
def fX7_isOver (n d : Nat) (I : am_I) (L : am_L) : Option (Int32 × am_I × am_L) :=
  am_b3 (fX7_winner n d I L) (fun v1 I1 L1 => if v1 = (-1 : Int32) then
    (some ((0 : Int32), I1, L1))
    else
    (some ((1 : Int32), I1, L1)))

set_option maxRecDepth 100000 in
set_option maxHeartbeats 4000000 in
theorem tX7_isOver {x : am_X} {al : Bool} (n d : Nat) (hc : am_ok x cX7_isOver yX7_isOver 1 (some .boolean) (d + 2) 0 0) {r : Int32} {I' : am_I} {L' : am_L} (I : am_I) (L : am_L) (hf : fX7_isOver n d I L = some (r, I', L')) : am_J x (fun S => S = (some (.int r), (KC al), (RC al), I', L')) 0 [some (.ref 39)] [] (KC al) (RC al) I L 0 0 := by
  unfold fX7_isOver at hf
  refine j_aload_n hc dX7_isOver_0 rfl ?_
  refine j_callVI (t := 39) (As := []) hc dX7_isOver_1 kw_915 mX7_winner (kC_39 _) clX7 rfl (by omega) (Nat.le_of_ble_eq_true rfl) (Nat.le_of_ble_eq_true rfl) ⟨Nat.le_refl _, Nat.le_refl _⟩ hf (fun v I' L' h => qX7_winner x.2.1 n d I L v I' L' h) (fun v1 I1 L1 hf => ?_)
  refine j_iconst (v := (-1 : Int32)) hc dX7_isOver_4 ci_m1 ?_
  refine j_icmp_eq (tgt := 12) hc dX7_isOver_5 rfl hf (fun hf => ?_) (fun hf => ?_)
  · refine j_iconst (v := (0 : Int32)) hc dX7_isOver_12 ci_0 ?_
    exact j_zret hc dX7_isOver_13 rfl rfl (Or.inl rfl) hf
  · refine j_iconst (v := (1 : Int32)) hc dX7_isOver_8 ci_1 ?_
    refine j_goto (tgt := 13) hc dX7_isOver_9 rfl ?_
    exact j_zret hc dX7_isOver_13 rfl rfl (Or.inr rfl) hf

set_option maxRecDepth 100000 in
theorem qX7_isOver (l : Launch) {al : Bool} (n d : Nat) (I : am_I) (L : am_L) (r : Int32) (I' : am_I) (L' : am_L) (hf : fX7_isOver n d I L = some (r, I', L')) : am_C l yX7_isOver cX7_isOver 1 (some .boolean) (d + 2) [.ref 39] (KC al) (RC al) I L (some (.int r)) I' L' := by
  exact am_intro (plainFor_of_name plX7) (fun _ _ => trivial) (Nat.le_of_ble_eq_true rfl) (fun x hl hc => by subst hl; exact j_sub (tX7_isOver n d hc  _ _ hf) (And.intro rfl (trivial)))
set_option maxRecDepth 100000 in
def fX7_mayAct (n d : Nat) (a1 : Int32) (I : am_I) (L : am_L) : Option (Int32 × am_I × am_L) :=
  am_b3 (fX9_hasMan_war n d a1 I L) (fun v1 I1 L1 => if v1 = 0 then
    (some ((0 : Int32), I1, L1))
    else
    (am_b3 (fX7_isHome n d a1 I1 L1) (fun v2 I2 L2 => if v2 = 0 then
      (am_b3 (fX7_didDeed n d a1 I2 L2) (fun v3 I3 L3 => if v3 = 0 then
        (am_b3 (fX7_isOver n d I3 L3) (fun v4 I4 L4 => if v4 = 0 then
          (some ((1 : Int32), I4, L4))
          else
          (some ((0 : Int32), I4, L4))))
        else
        (some ((0 : Int32), I3, L3))))
      else
      (some ((0 : Int32), I2, L2)))))

set_option maxRecDepth 100000 in
set_option maxHeartbeats 4000000 in
theorem tX7_mayAct {x : am_X} {al : Bool} (n d : Nat) (hc : am_ok x cX7_mayAct yX7_mayAct 2 (some .boolean) (d + 3) 0 0) {r : Int32} {I' : am_I} {L' : am_L} (a1 : Int32) (I : am_I) (L : am_L) (hf : fX7_mayAct n d a1 I L = some (r, I', L')) : am_J x (fun S => S = (some (.int r), (KC al), (RC al), I', L')) 0 [some (.ref 39), some (.int a1)] [] (KC al) (RC al) I L 0 0 := by
  unfold fX7_mayAct at hf
  refine j_aload_n hc dX7_mayAct_0 rfl ?_
  refine j_getR (u := 3) hc dX7_mayAct_1 (fgC_X7_30_39 _) (rC_39_0 _) ?_
  refine j_iload_n hc dX7_mayAct_4 rfl ?_
  refine j_callVI (t := 3) (As := [.int a1]) hc dX7_mayAct_5 kw_899 mX9_hasMan (kC_3 _) clX9 rfl (by omega) (Nat.le_of_ble_eq_true rfl) (Nat.le_of_ble_eq_true rfl) ⟨Nat.le_refl _, Nat.le_refl _⟩ hf (fun v I' L' h => qX9_hasMan_war x.2.1 n d a1 I L v I' L' h) (fun v1 I1 L1 hf => ?_)
  refine j_if_eq (tgt := 38) hc dX7_mayAct_8 rfl hf (fun hf => ?_) (fun hf => ?_)
  · refine j_iconst (v := (0 : Int32)) hc dX7_mayAct_38 ci_0 ?_
    exact j_zret hc dX7_mayAct_39 rfl rfl (Or.inl rfl) hf
  · refine j_aload_n hc dX7_mayAct_11 rfl ?_
    refine j_iload_n hc dX7_mayAct_12 rfl ?_
    refine j_callVI (t := 39) (As := [.int a1]) hc dX7_mayAct_13 kw_903 mX7_isHome (kC_39 _) clX7 rfl (by omega) (Nat.le_of_ble_eq_true rfl) (Nat.le_of_ble_eq_true rfl) ⟨Nat.le_refl _, Nat.le_refl _⟩ hf (fun v I' L' h => qX7_isHome x.2.1 n d a1 I1 L1 v I' L' h) (fun v2 I2 L2 hf => ?_)
    refine j_if_ne (tgt := 38) hc dX7_mayAct_16 rfl hf (fun hf => ?_) (fun hf => ?_)
    · refine j_iconst (v := (0 : Int32)) hc dX7_mayAct_38 ci_0 ?_
      exact j_zret hc dX7_mayAct_39 rfl rfl (Or.inl rfl) hf
    · refine j_aload_n hc dX7_mayAct_19 rfl ?_
      refine j_iload_n hc dX7_mayAct_20 rfl ?_
      refine j_callVI (t := 39) (As := [.int a1]) hc dX7_mayAct_21 kw_907 mX7_didDeed (kC_39 _) clX7 rfl (by omega) (Nat.le_of_ble_eq_true rfl) (Nat.le_of_ble_eq_true rfl) ⟨Nat.le_refl _, Nat.le_refl _⟩ hf (fun v I' L' h => qX7_didDeed x.2.1 n d a1 I2 L2 v I' L' h) (fun v3 I3 L3 hf => ?_)
      refine j_if_ne (tgt := 38) hc dX7_mayAct_24 rfl hf (fun hf => ?_) (fun hf => ?_)
      · refine j_iconst (v := (0 : Int32)) hc dX7_mayAct_38 ci_0 ?_
        exact j_zret hc dX7_mayAct_39 rfl rfl (Or.inl rfl) hf
      · refine j_aload_n hc dX7_mayAct_27 rfl ?_
        refine j_callVI (t := 39) (As := []) hc dX7_mayAct_28 kw_911 mX7_isOver (kC_39 _) clX7 rfl (by omega) (Nat.le_of_ble_eq_true rfl) (Nat.le_of_ble_eq_true rfl) ⟨Nat.le_refl _, Nat.le_refl _⟩ hf (fun v I' L' h => qX7_isOver x.2.1 n d I3 L3 v I' L' h) (fun v4 I4 L4 hf => ?_)
        refine j_if_ne (tgt := 38) hc dX7_mayAct_31 rfl hf (fun hf => ?_) (fun hf => ?_)
        · refine j_iconst (v := (0 : Int32)) hc dX7_mayAct_38 ci_0 ?_
          exact j_zret hc dX7_mayAct_39 rfl rfl (Or.inl rfl) hf
        · refine j_iconst (v := (1 : Int32)) hc dX7_mayAct_34 ci_1 ?_
          refine j_goto (tgt := 39) hc dX7_mayAct_35 rfl ?_
          exact j_zret hc dX7_mayAct_39 rfl rfl (Or.inr rfl) hf

set_option maxRecDepth 100000 in
theorem qX7_mayAct (l : Launch) {al : Bool} (n d : Nat) (a1 : Int32) (I : am_I) (L : am_L) (r : Int32) (I' : am_I) (L' : am_L) (hf : fX7_mayAct n d a1 I L = some (r, I', L')) : am_C l yX7_mayAct cX7_mayAct 2 (some .boolean) (d + 3) [.ref 39, .int a1] (KC al) (RC al) I L (some (.int r)) I' L' := by
  exact am_intro (plainFor_of_name plX7) (fun _ _ => trivial) (Nat.le_of_ble_eq_true rfl) (fun x hl hc => by subst hl; exact j_sub (tX7_mayAct n d hc _ _ _ hf) (And.intro rfl (And.intro rfl (trivial))))
set_option maxRecDepth 100000 in
def fX7_canGo (n d : Nat) (a1 : Int32) (I : am_I) (L : am_L) : Option (Int32 × am_I × am_L) :=
  am_ck a1 8 (am_lt (I 40 (a1).toNatClampNeg) (fun v1 => if v1 ≤ 0 then
    (some ((0 : Int32), I, L))
    else
    (some ((1 : Int32), I, L))))

set_option maxRecDepth 100000 in
set_option maxHeartbeats 4000000 in
theorem tX7_canGo {x : am_X} {al : Bool} (n d : Nat) (hc : am_ok x cX7_canGo yX7_canGo 2 (some .boolean) (d + 1) 0 0) {r : Int32} {I' : am_I} {L' : am_L} (a1 : Int32) (I : am_I) (L : am_L) (hf : fX7_canGo n d a1 I L = some (r, I', L')) : am_J x (fun S => S = (some (.int r), (KC al), (RC al), I', L')) 0 [some (.ref 39), some (.int a1)] [] (KC al) (RC al) I L 0 0 := by
  unfold fX7_canGo at hf
  refine j_aload_n hc dX7_canGo_0 rfl ?_
  refine j_getR (u := 40) hc dX7_canGo_1 (fgC_X7_11_39 _) (rC_39_2 _) ?_
  refine j_iload_n hc dX7_canGo_4 rfl ?_
  refine j_iaload (n := 8) hc dX7_canGo_5 (kC_40 _) hf (fun v1 hf => ?_)
  refine j_if_le (tgt := 13) hc dX7_canGo_6 rfl hf (fun hf => ?_) (fun hf => ?_)
  · refine j_iconst (v := (0 : Int32)) hc dX7_canGo_13 ci_0 ?_
    exact j_zret hc dX7_canGo_14 rfl rfl (Or.inl rfl) hf
  · refine j_iconst (v := (1 : Int32)) hc dX7_canGo_9 ci_1 ?_
    refine j_goto (tgt := 14) hc dX7_canGo_10 rfl ?_
    exact j_zret hc dX7_canGo_14 rfl rfl (Or.inr rfl) hf

set_option maxRecDepth 100000 in
theorem qX7_canGo (l : Launch) {al : Bool} (n d : Nat) (a1 : Int32) (I : am_I) (L : am_L) (r : Int32) (I' : am_I) (L' : am_L) (hf : fX7_canGo n d a1 I L = some (r, I', L')) : am_C l yX7_canGo cX7_canGo 2 (some .boolean) (d + 1) [.ref 39, .int a1] (KC al) (RC al) I L (some (.int r)) I' L' := by
  exact am_intro (plainFor_of_name plX7) (fun _ _ => trivial) (Nat.le_of_ble_eq_true rfl) (fun x hl hc => by subst hl; exact j_sub (tX7_canGo n d hc _ _ _ hf) (And.intro rfl (And.intro rfl (trivial))))
set_option maxRecDepth 100000 in
def fX7_packedSteps_b4w (n d : Nat) (k4 : Int64 → Int32 → am_I → am_L → Option (Int64 × am_I × am_L)) (a1 : Int64) (a3 : Int32) (I : am_I) (L : am_L) : Option (Int64 × am_I × am_L) :=
  if (I 3 0) ≤ a3 then
    (some (a1, I, L))
    else
    (am_ck a3 8 (am_lt (I 40 (a3).toNatClampNeg) (fun v1 => am_lt (a1 ||| (v1.toInt64 <<< ((a3 * (5 : Int32)).toInt64 &&& 63))) (fun v2 => am_lt (a3 + (1 : Int32)) (fun v3 => k4 v2 v3 I L)))))

set_option maxRecDepth 100000 in
set_option maxHeartbeats 4000000 in
theorem tX7_packedSteps_b4w {x : am_X} {al : Bool} (n d : Nat) (hc : am_ok x cX7_packedSteps yX7_packedSteps 4 (some .long) (d + 1) 0 0) {r : Int64} {I' : am_I} {L' : am_L} (k4 : Int64 → Int32 → am_I → am_L → Option (Int64 × am_I × am_L)) (hk4 : ∀ (a1 : Int64) (a3 : Int32) (I : am_I) (L : am_L), k4 a1 a3 I L = some (r, I', L') → am_J x (fun S => S = (some (.long r), (KC al), (RC al), I', L')) 4 [some (.ref 39), some (.long a1), none, some (.int a3)] [] (KC al) (RC al) I L 0 0) (a1 : Int64) (a3 : Int32) (I : am_I) (L : am_L) (hf : fX7_packedSteps_b4w n d k4 a1 a3 I L = some (r, I', L')) : am_J x (fun S => S = (some (.long r), (KC al), (RC al), I', L')) 4 [some (.ref 39), some (.long a1), none, some (.int a3)] [] (KC al) (RC al) I L 0 0 := by
  unfold fX7_packedSteps_b4w at hf
  refine j_iload_n hc dX7_packedSteps_4 rfl ?_
  refine j_aload_n hc dX7_packedSteps_5 rfl ?_
  refine j_getR (u := 3) hc dX7_packedSteps_6 (fgC_X7_30_39 _) (rC_39_0 _) ?_
  refine j_getI hc dX7_packedSteps_9 (fgC_X7_38_3 _) ?_
  refine j_icmp_ge (tgt := 35) hc dX7_packedSteps_12 rfl hf (fun hf => ?_) (fun hf => ?_)
  · refine j_lload_n hc dX7_packedSteps_35 rfl ?_
    exact j_lreturn hc dX7_packedSteps_36 rfl rfl hf
  · refine j_lload_n hc dX7_packedSteps_15 rfl ?_
    refine j_aload_n hc dX7_packedSteps_16 rfl ?_
    refine j_getR (u := 40) hc dX7_packedSteps_17 (fgC_X7_11_39 _) (rC_39_2 _) ?_
    refine j_iload_n hc dX7_packedSteps_20 rfl ?_
    refine j_iaload (n := 8) hc dX7_packedSteps_21 (kC_40 _) hf (fun v1 hf => ?_)
    refine j_i2l hc dX7_packedSteps_22 ?_
    refine j_iload_n hc dX7_packedSteps_23 rfl ?_
    refine j_iconst (v := (5 : Int32)) hc dX7_packedSteps_24 ci_5 ?_
    refine j_imul hc dX7_packedSteps_25 ?_
    refine j_lshl hc dX7_packedSteps_26 ?_
    refine j_lor hc dX7_packedSteps_27 ?_
    refine j_lstore_n hc dX7_packedSteps_28 (Nat.le_of_ble_eq_true rfl) hf (fun v2 hf => ?_)
    refine j_iinc (w := (1 : Int32)) hc dX7_packedSteps_29 rfl ci_1 (Nat.le_of_ble_eq_true rfl) hf (fun v3 hf => ?_)
    refine j_goto (tgt := 4) hc dX7_packedSteps_32 rfl ?_
    exact j_sub (hk4 _ _ _ _ hf) (And.intro rfl (And.intro rfl (And.intro rfl (trivial))))

def fX7_packedSteps_b4 (n d : Nat) : Nat → Int64 → Int32 → am_I → am_L → Option (Int64 × am_I × am_L)
  | 0 => fun _ _ _ _ => none
  | m + 1 => fX7_packedSteps_b4w n d  (fX7_packedSteps_b4 n d m)

set_option maxRecDepth 100000 in
theorem tX7_packedSteps_b4 {x : am_X} {al : Bool} (n d : Nat) (hc : am_ok x cX7_packedSteps yX7_packedSteps 4 (some .long) (d + 1) 0 0) {r : Int64} {I' : am_I} {L' : am_L} (m : Nat) : ∀ (a1 : Int64) (a3 : Int32) (I : am_I) (L : am_L) (hf : fX7_packedSteps_b4 n d m a1 a3 I L = some (r, I', L')), am_J x (fun S => S = (some (.long r), (KC al), (RC al), I', L')) 4 [some (.ref 39), some (.long a1), none, some (.int a3)] [] (KC al) (RC al) I L 0 0 := by
  induction m with
  | zero => intro a1 a3 I L hf; exact (Option.some_ne_none _ hf.symm).elim
  | succ m ih => intro a1 a3 I L hf; exact tX7_packedSteps_b4w n d hc (fX7_packedSteps_b4 n d m) ih a1 a3 I L hf

set_option maxRecDepth 100000 in
def fX7_packedSteps (n d : Nat) (I : am_I) (L : am_L) : Option (Int64 × am_I × am_L) :=
  am_lt (0 : Int64) (fun v1 => am_lt (0 : Int32) (fun v2 => fX7_packedSteps_b4 n d n v1 v2 I L))

set_option maxRecDepth 100000 in
set_option maxHeartbeats 4000000 in
theorem tX7_packedSteps {x : am_X} {al : Bool} (n d : Nat) (hc : am_ok x cX7_packedSteps yX7_packedSteps 4 (some .long) (d + 1) 0 0) {r : Int64} {I' : am_I} {L' : am_L} (I : am_I) (L : am_L) (hf : fX7_packedSteps n d I L = some (r, I', L')) : am_J x (fun S => S = (some (.long r), (KC al), (RC al), I', L')) 0 [some (.ref 39), none, none, none] [] (KC al) (RC al) I L 0 0 := by
  unfold fX7_packedSteps at hf
  refine j_lconst (v := (0 : Int64)) hc dX7_packedSteps_0 cl__0 ?_
  refine j_lstore_n hc dX7_packedSteps_1 (Nat.le_of_ble_eq_true rfl) hf (fun v1 hf => ?_)
  refine j_iconst (v := (0 : Int32)) hc dX7_packedSteps_2 ci_0 ?_
  refine j_istore_n hc dX7_packedSteps_3 (Nat.le_of_ble_eq_true rfl) hf (fun v2 hf => ?_)
  exact j_sub (tX7_packedSteps_b4 n d hc n _ _ _ _ hf) (And.intro rfl (And.intro rfl (And.intro rfl (trivial))))

set_option maxRecDepth 100000 in
theorem qX7_packedSteps (l : Launch) {al : Bool} (n d : Nat) (I : am_I) (L : am_L) (r : Int64) (I' : am_I) (L' : am_L) (hf : fX7_packedSteps n d I L = some (r, I', L')) : am_C l yX7_packedSteps cX7_packedSteps 4 (some .long) (d + 1) [.ref 39] (KC al) (RC al) I L (some (.long r)) I' L' := by
  exact am_intro (plainFor_of_name plX7) (fun _ _ => trivial) (Nat.le_of_ble_eq_true rfl) (fun x hl hc => by subst hl; exact j_sub (tX7_packedSteps n d hc  _ _ hf) (And.intro rfl (trivial)))
set_option maxRecDepth 100000 in
def fX7_packedRests_b4w (n d : Nat) (k4 : Int64 → Int32 → am_I → am_L → Option (Int64 × am_I × am_L)) (a1 : Int64) (a3 : Int32) (I : am_I) (L : am_L) : Option (Int64 × am_I × am_L) :=
  if (I 3 0) ≤ a3 then
    (some (a1, I, L))
    else
    (am_ck a3 8 (am_lt (I 41 (a3).toNatClampNeg) (fun v1 => am_lt (a1 ||| (v1.toInt64 <<< ((a3 * (4 : Int32)).toInt64 &&& 63))) (fun v2 => am_lt (a3 + (1 : Int32)) (fun v3 => k4 v2 v3 I L)))))

set_option maxRecDepth 100000 in
set_option maxHeartbeats 4000000 in
theorem tX7_packedRests_b4w {x : am_X} {al : Bool} (n d : Nat) (hc : am_ok x cX7_packedRests yX7_packedRests 4 (some .long) (d + 1) 0 0) {r : Int64} {I' : am_I} {L' : am_L} (k4 : Int64 → Int32 → am_I → am_L → Option (Int64 × am_I × am_L)) (hk4 : ∀ (a1 : Int64) (a3 : Int32) (I : am_I) (L : am_L), k4 a1 a3 I L = some (r, I', L') → am_J x (fun S => S = (some (.long r), (KC al), (RC al), I', L')) 4 [some (.ref 39), some (.long a1), none, some (.int a3)] [] (KC al) (RC al) I L 0 0) (a1 : Int64) (a3 : Int32) (I : am_I) (L : am_L) (hf : fX7_packedRests_b4w n d k4 a1 a3 I L = some (r, I', L')) : am_J x (fun S => S = (some (.long r), (KC al), (RC al), I', L')) 4 [some (.ref 39), some (.long a1), none, some (.int a3)] [] (KC al) (RC al) I L 0 0 := by
  unfold fX7_packedRests_b4w at hf
  refine j_iload_n hc dX7_packedRests_4 rfl ?_
  refine j_aload_n hc dX7_packedRests_5 rfl ?_
  refine j_getR (u := 3) hc dX7_packedRests_6 (fgC_X7_30_39 _) (rC_39_0 _) ?_
  refine j_getI hc dX7_packedRests_9 (fgC_X7_38_3 _) ?_
  refine j_icmp_ge (tgt := 35) hc dX7_packedRests_12 rfl hf (fun hf => ?_) (fun hf => ?_)
  · refine j_lload_n hc dX7_packedRests_35 rfl ?_
    exact j_lreturn hc dX7_packedRests_36 rfl rfl hf
  · refine j_lload_n hc dX7_packedRests_15 rfl ?_
    refine j_aload_n hc dX7_packedRests_16 rfl ?_
    refine j_getR (u := 41) hc dX7_packedRests_17 (fgC_X7_17_39 _) (rC_39_3 _) ?_
    refine j_iload_n hc dX7_packedRests_20 rfl ?_
    refine j_iaload (n := 8) hc dX7_packedRests_21 (kC_41 _) hf (fun v1 hf => ?_)
    refine j_i2l hc dX7_packedRests_22 ?_
    refine j_iload_n hc dX7_packedRests_23 rfl ?_
    refine j_iconst (v := (4 : Int32)) hc dX7_packedRests_24 ci_4 ?_
    refine j_imul hc dX7_packedRests_25 ?_
    refine j_lshl hc dX7_packedRests_26 ?_
    refine j_lor hc dX7_packedRests_27 ?_
    refine j_lstore_n hc dX7_packedRests_28 (Nat.le_of_ble_eq_true rfl) hf (fun v2 hf => ?_)
    refine j_iinc (w := (1 : Int32)) hc dX7_packedRests_29 rfl ci_1 (Nat.le_of_ble_eq_true rfl) hf (fun v3 hf => ?_)
    refine j_goto (tgt := 4) hc dX7_packedRests_32 rfl ?_
    exact j_sub (hk4 _ _ _ _ hf) (And.intro rfl (And.intro rfl (And.intro rfl (trivial))))

def fX7_packedRests_b4 (n d : Nat) : Nat → Int64 → Int32 → am_I → am_L → Option (Int64 × am_I × am_L)
  | 0 => fun _ _ _ _ => none
  | m + 1 => fX7_packedRests_b4w n d  (fX7_packedRests_b4 n d m)

set_option maxRecDepth 100000 in
theorem tX7_packedRests_b4 {x : am_X} {al : Bool} (n d : Nat) (hc : am_ok x cX7_packedRests yX7_packedRests 4 (some .long) (d + 1) 0 0) {r : Int64} {I' : am_I} {L' : am_L} (m : Nat) : ∀ (a1 : Int64) (a3 : Int32) (I : am_I) (L : am_L) (hf : fX7_packedRests_b4 n d m a1 a3 I L = some (r, I', L')), am_J x (fun S => S = (some (.long r), (KC al), (RC al), I', L')) 4 [some (.ref 39), some (.long a1), none, some (.int a3)] [] (KC al) (RC al) I L 0 0 := by
  induction m with
  | zero => intro a1 a3 I L hf; exact (Option.some_ne_none _ hf.symm).elim
  | succ m ih => intro a1 a3 I L hf; exact tX7_packedRests_b4w n d hc (fX7_packedRests_b4 n d m) ih a1 a3 I L hf

set_option maxRecDepth 100000 in
def fX7_packedRests (n d : Nat) (I : am_I) (L : am_L) : Option (Int64 × am_I × am_L) :=
  am_lt (0 : Int64) (fun v1 => am_lt (0 : Int32) (fun v2 => fX7_packedRests_b4 n d n v1 v2 I L))

set_option maxRecDepth 100000 in
set_option maxHeartbeats 4000000 in
theorem tX7_packedRests {x : am_X} {al : Bool} (n d : Nat) (hc : am_ok x cX7_packedRests yX7_packedRests 4 (some .long) (d + 1) 0 0) {r : Int64} {I' : am_I} {L' : am_L} (I : am_I) (L : am_L) (hf : fX7_packedRests n d I L = some (r, I', L')) : am_J x (fun S => S = (some (.long r), (KC al), (RC al), I', L')) 0 [some (.ref 39), none, none, none] [] (KC al) (RC al) I L 0 0 := by
  unfold fX7_packedRests at hf
  refine j_lconst (v := (0 : Int64)) hc dX7_packedRests_0 cl__0 ?_
  refine j_lstore_n hc dX7_packedRests_1 (Nat.le_of_ble_eq_true rfl) hf (fun v1 hf => ?_)
  refine j_iconst (v := (0 : Int32)) hc dX7_packedRests_2 ci_0 ?_
  refine j_istore_n hc dX7_packedRests_3 (Nat.le_of_ble_eq_true rfl) hf (fun v2 hf => ?_)
  exact j_sub (tX7_packedRests_b4 n d hc n _ _ _ _ hf) (And.intro rfl (And.intro rfl (And.intro rfl (trivial))))

set_option maxRecDepth 100000 in
theorem qX7_packedRests (l : Launch) {al : Bool} (n d : Nat) (I : am_I) (L : am_L) (r : Int64) (I' : am_I) (L' : am_L) (hf : fX7_packedRests n d I L = some (r, I', L')) : am_C l yX7_packedRests cX7_packedRests 4 (some .long) (d + 1) [.ref 39] (KC al) (RC al) I L (some (.long r)) I' L' := by
  exact am_intro (plainFor_of_name plX7) (fun _ _ => trivial) (Nat.le_of_ble_eq_true rfl) (fun x hl hc => by subst hl; exact j_sub (tX7_packedRests n d hc  _ _ hf) (And.intro rfl (trivial)))
set_option maxRecDepth 100000 in
def fX6_keep_road (n d : Nat) (a1 : Int32) (I : am_I) (L : am_L) : Option (am_I × am_L) :=
  am_b3 (fX7_packedSteps n d I L) (fun v1 I1 L1 => am_ck a1 41 (am_lt (am_uL L1 46 (a1).toNatClampNeg v1) (fun L2 => am_b3 (fX7_packedRests n d I1 L2) (fun v3 I3 L3 => am_ck a1 41 (am_lt (am_uL L3 47 (a1).toNatClampNeg v3) (fun L4 => am_ck a1 41 (am_lt (am_up I3 48 (a1).toNatClampNeg (I3 39 4)) (fun I5 => am_ck a1 41 (am_lt (am_up I5 49 (a1).toNatClampNeg (I5 39 5)) (fun I6 => some (I6, L4)))))))))))

set_option maxRecDepth 100000 in
set_option maxHeartbeats 4000000 in
theorem tX6_keep_road {x : am_X} {al : Bool} (n d : Nat) (hc : am_ok x cX6_keep yX6_keep 3 none (d + 2) 0 0) {I' : am_I} {L' : am_L} (a1 : Int32) (I : am_I) (L : am_L) (hf : fX6_keep_road n d a1 I L = some (I', L')) : am_J x (fun S => S = (none, (KC al), (RC al), I', L')) 0 [some (.ref 45), some (.int a1), some (.ref 39)] [] (KC al) (RC al) I L 0 0 := by
  unfold fX6_keep_road at hf
  refine j_aload_n hc dX6_keep_0 rfl ?_
  refine j_getR (u := 46) hc dX6_keep_1 (fgC_X6_9_45 _) (rC_45_0 _) ?_
  refine j_iload_n hc dX6_keep_4 rfl ?_
  refine j_aload_n hc dX6_keep_5 rfl ?_
  refine j_callVL (t := 39) (As := []) hc dX6_keep_6 kw_931 mX7_packedSteps (kC_39 _) clX7 rfl (by omega) (Nat.le_of_ble_eq_true rfl) (Nat.le_of_ble_eq_true rfl) ⟨Nat.le_refl _, Nat.le_refl _⟩ hf (fun v I' L' h => qX7_packedSteps x.2.1 n d I L v I' L' h) (fun v1 I1 L1 hf => ?_)
  refine j_lastore (n := 41) hc dX6_keep_9 (kC_46 _) hf (fun L2 hf => ?_)
  refine j_aload_n hc dX6_keep_10 rfl ?_
  refine j_getR (u := 47) hc dX6_keep_11 (fgC_X6_13_45 _) (rC_45_1 _) ?_
  refine j_iload_n hc dX6_keep_14 rfl ?_
  refine j_aload_n hc dX6_keep_15 rfl ?_
  refine j_callVL (t := 39) (As := []) hc dX6_keep_16 kw_935 mX7_packedRests (kC_39 _) clX7 rfl (by omega) (Nat.le_of_ble_eq_true rfl) (Nat.le_of_ble_eq_true rfl) ⟨Nat.le_refl _, Nat.le_refl _⟩ hf (fun v I' L' h => qX7_packedRests x.2.1 n d I1 L2 v I' L' h) (fun v3 I3 L3 hf => ?_)
  refine j_lastore (n := 41) hc dX6_keep_19 (kC_47 _) hf (fun L4 hf => ?_)
  refine j_aload_n hc dX6_keep_20 rfl ?_
  refine j_getR (u := 48) hc dX6_keep_21 (fgC_X6_16_45 _) (rC_45_2 _) ?_
  refine j_iload_n hc dX6_keep_24 rfl ?_
  refine j_aload_n hc dX6_keep_25 rfl ?_
  refine j_getI hc dX6_keep_26 (fgC_X6_73_39 _) ?_
  refine j_iastore (n := 41) hc dX6_keep_29 (kC_48 _) hf (fun I5 hf => ?_)
  refine j_aload_n hc dX6_keep_30 rfl ?_
  refine j_getR (u := 49) hc dX6_keep_31 (fgC_X6_20_45 _) (rC_45_3 _) ?_
  refine j_iload_n hc dX6_keep_34 rfl ?_
  refine j_aload_n hc dX6_keep_35 rfl ?_
  refine j_getI hc dX6_keep_36 (fgC_X6_75_39 _) ?_
  refine j_iastore (n := 41) hc dX6_keep_39 (kC_49 _) hf (fun I6 hf => ?_)
  exact j_return hc dX6_keep_40 rfl rfl hf

set_option maxRecDepth 100000 in
theorem qX6_keep_road (l : Launch) {al : Bool} (n d : Nat) (a1 : Int32) (I : am_I) (L : am_L) (I' : am_I) (L' : am_L) (hf : fX6_keep_road n d a1 I L = some (I', L')) : am_C l yX6_keep cX6_keep 3 none (d + 2) [.ref 45, .int a1, .ref 39] (KC al) (RC al) I L none I' L' := by
  exact am_intro (plainFor_of_name plX6) (fun _ _ => trivial) (Nat.le_of_ble_eq_true rfl) (fun x hl hc => by subst hl; exact j_sub (tX6_keep_road n d hc _ _ _ hf) (And.intro rfl (And.intro rfl (And.intro rfl (trivial)))))
set_option maxRecDepth 100000 in
def fX6_keepAct_road_logbook (n d : Nat) (I : am_I) (L : am_L) : Option (am_I × am_L) :=
  am_b3 (fJ9_floorMod_7cf53 n d (I 45 5) (40 : Int32) I L) (fun v1 I1 L1 => am_lt (am_up I1 45 5 v1) (fun I2 => am_b2 (fX6_keep_road n d (I2 45 5) I2 L1) (fun I3 L3 => am_ck (I3 45 5) 40 (am_lt (am_up I3 50 ((I3 45 5)).toNatClampNeg (I3 42 3)) (fun I4 => am_lt (am_up I4 45 5 ((I4 45 5) + (1 : Int32))) (fun I5 => am_b3 (fJ9_min_7cf53 n d ((I5 45 6) + (1 : Int32)) (40 : Int32) I5 L3) (fun v6 I6 L6 => am_lt (am_up I6 45 6 v6) (fun I7 => some (I7, L6)))))))))

set_option maxRecDepth 100000 in
set_option maxHeartbeats 4000000 in
theorem tX6_keepAct_road_logbook {x : am_X} {al : Bool} (n d : Nat) (hc : am_ok x cX6_keepAct yX6_keepAct 3 none (d + 3) 0 0) {I' : am_I} {L' : am_L} (I : am_I) (L : am_L) (hf : fX6_keepAct_road_logbook n d I L = some (I', L')) : am_J x (fun S => S = (none, (KC al), (RC al), I', L')) 0 [some (.ref 45), some (.ref 39), some (.ref 42)] [] (KC al) (RC al) I L 0 0 := by
  unfold fX6_keepAct_road_logbook at hf
  refine j_aload_n hc dX6_keepAct_0 rfl ?_
  refine j_aload_n hc dX6_keepAct_1 rfl ?_
  refine j_getI hc dX6_keepAct_2 (fgC_X6_26_45 _) ?_
  refine j_bipush (v := (40 : Int32)) hc dX6_keepAct_5 cb_40 ?_
  refine j_callSI (As := [.int (I 45 5), .int (40 : Int32)]) hc dX6_keepAct_7 kw_924 mJ9_floorMod_7cf53  rfl (by omega) (Nat.le_of_ble_eq_true rfl) (Nat.le_of_ble_eq_true rfl) ⟨Nat.le_refl _, Nat.le_refl _⟩ hf (fun v I' L' h => qJ9_floorMod_7cf53 x.2.1 n d (I 45 5) (40 : Int32) I L v I' L' h) (fun v1 I1 L1 hf => ?_)
  refine j_putI hc dX6_keepAct_10 (fpC_X6_26_45 _) rfl rfl hf (fun I2 hf => ?_)
  refine j_aload_n hc dX6_keepAct_13 rfl ?_
  refine j_aload_n hc dX6_keepAct_14 rfl ?_
  refine j_getI hc dX6_keepAct_15 (fgC_X6_26_45 _) ?_
  refine j_aload_n hc dX6_keepAct_18 rfl ?_
  refine j_callVV (t := 45) (As := [.int (I2 45 5), .ref 39]) hc dX6_keepAct_19 kw_927 mX6_keep (kC_45 _) clX6 rfl (by omega) (Nat.le_of_ble_eq_true rfl) (Nat.le_of_ble_eq_true rfl) ⟨Nat.le_refl _, Nat.le_refl _⟩ hf (fun I' L' h => qX6_keep_road x.2.1 n d (I2 45 5) I2 L1 I' L' h) (fun I3 L3 hf => ?_)
  refine j_aload_n hc dX6_keepAct_22 rfl ?_
  refine j_getR (u := 50) hc dX6_keepAct_23 (fgC_X6_23_45 _) (rC_45_4 _) ?_
  refine j_aload_n hc dX6_keepAct_26 rfl ?_
  refine j_getI hc dX6_keepAct_27 (fgC_X6_26_45 _) ?_
  refine j_aload_n hc dX6_keepAct_30 rfl ?_
  refine j_getI hc dX6_keepAct_31 (fgC_X6_47_42 _) ?_
  refine j_iastore (n := 40) hc dX6_keepAct_34 (kC_50 _) hf (fun I4 hf => ?_)
  refine j_aload_n hc dX6_keepAct_35 rfl ?_
  refine j_dup hc dX6_keepAct_36 rfl ?_
  refine j_getI hc dX6_keepAct_37 (fgC_X6_26_45 _) ?_
  refine j_iconst (v := (1 : Int32)) hc dX6_keepAct_40 ci_1 ?_
  refine j_iadd hc dX6_keepAct_41 ?_
  refine j_putI hc dX6_keepAct_42 (fpC_X6_26_45 _) rfl rfl hf (fun I5 hf => ?_)
  refine j_aload_n hc dX6_keepAct_45 rfl ?_
  refine j_aload_n hc dX6_keepAct_46 rfl ?_
  refine j_getI hc dX6_keepAct_47 (fgC_X6_30_45 _) ?_
  refine j_iconst (v := (1 : Int32)) hc dX6_keepAct_50 ci_1 ?_
  refine j_iadd hc dX6_keepAct_51 ?_
  refine j_bipush (v := (40 : Int32)) hc dX6_keepAct_52 cb_40 ?_
  refine j_callSI (As := [.int ((I5 45 6) + (1 : Int32)), .int (40 : Int32)]) hc dX6_keepAct_54 kw_939 mJ9_min_7cf53  rfl (by omega) (Nat.le_of_ble_eq_true rfl) (Nat.le_of_ble_eq_true rfl) ⟨Nat.le_refl _, Nat.le_refl _⟩ hf (fun v I' L' h => qJ9_min_7cf53 x.2.1 n d ((I5 45 6) + (1 : Int32)) (40 : Int32) I5 L3 v I' L' h) (fun v6 I6 L6 hf => ?_)
  refine j_putI hc dX6_keepAct_57 (fpC_X6_30_45 _) rfl rfl hf (fun I7 hf => ?_)
  exact j_return hc dX6_keepAct_60 rfl rfl hf

set_option maxRecDepth 100000 in
theorem qX6_keepAct_road_logbook (l : Launch) {al : Bool} (n d : Nat) (I : am_I) (L : am_L) (I' : am_I) (L' : am_L) (hf : fX6_keepAct_road_logbook n d I L = some (I', L')) : am_C l yX6_keepAct cX6_keepAct 3 none (d + 3) [.ref 45, .ref 39, .ref 42] (KC al) (RC al) I L none I' L' := by
  exact am_intro (plainFor_of_name plX6) (fun _ _ => trivial) (Nat.le_of_ble_eq_true rfl) (fun x hl hc => by subst hl; exact j_sub (tX6_keepAct_road_logbook n d hc  _ _ hf) (And.intro rfl (And.intro rfl (And.intro rfl (trivial)))))
set_option maxRecDepth 100000 in
def fX7_move (n d : Nat) (a1 : Int32) (a2 : Int32) (I : am_I) (L : am_L) : Option (am_I × am_L) :=
  am_ck a1 8 (am_lt (I 40 (a1).toNatClampNeg) (fun v1 => am_b3 (fJ9_max_7cf53 n d (0 : Int32) (v1 - a2) I L) (fun v2 I2 L2 => am_ck a1 8 (am_lt (am_up I2 40 (a1).toNatClampNeg v2) (fun I3 => am_ck a1 8 (am_lt (I3 40 (a1).toNatClampNeg) (fun v4 => am_b3 (fX7_restAt n d v4 I3 L2) (fun v5 I5 L5 => am_ck a1 8 (am_lt (am_up I5 41 (a1).toNatClampNeg v5) (fun I6 => am_b2 (fX7_lookAt n d a1 I6 L5) (fun I7 L7 => some (I7, L7))))))))))))

set_option maxRecDepth 100000 in
set_option maxHeartbeats 4000000 in
theorem tX7_move {x : am_X} {al : Bool} (n d : Nat) (hc : am_ok x cX7_move yX7_move 3 none (d + 5) 0 0) {I' : am_I} {L' : am_L} (a1 : Int32) (a2 : Int32) (I : am_I) (L : am_L) (hf : fX7_move n d a1 a2 I L = some (I', L')) : am_J x (fun S => S = (none, (KC al), (RC al), I', L')) 0 [some (.ref 39), some (.int a1), some (.int a2)] [] (KC al) (RC al) I L 0 0 := by
  unfold fX7_move at hf
  refine j_aload_n hc dX7_move_0 rfl ?_
  refine j_getR (u := 40) hc dX7_move_1 (fgC_X7_11_39 _) (rC_39_2 _) ?_
  refine j_iload_n hc dX7_move_4 rfl ?_
  refine j_iconst (v := (0 : Int32)) hc dX7_move_5 ci_0 ?_
  refine j_aload_n hc dX7_move_6 rfl ?_
  refine j_getR (u := 40) hc dX7_move_7 (fgC_X7_11_39 _) (rC_39_2 _) ?_
  refine j_iload_n hc dX7_move_10 rfl ?_
  refine j_iaload (n := 8) hc dX7_move_11 (kC_40 _) hf (fun v1 hf => ?_)
  refine j_iload_n hc dX7_move_12 rfl ?_
  refine j_isub hc dX7_move_13 ?_
  refine j_callSI (As := [.int (0 : Int32), .int (v1 - a2)]) hc dX7_move_14 kw_948 mJ9_max_7cf53  rfl (by omega) (Nat.le_of_ble_eq_true rfl) (Nat.le_of_ble_eq_true rfl) ⟨Nat.le_refl _, Nat.le_refl _⟩ hf (fun v I' L' h => qJ9_max_7cf53 x.2.1 n d (0 : Int32) (v1 - a2) I L v I' L' h) (fun v2 I2 L2 hf => ?_)
  refine j_iastore (n := 8) hc dX7_move_17 (kC_40 _) hf (fun I3 hf => ?_)
  refine j_aload_n hc dX7_move_18 rfl ?_
  refine j_getR (u := 41) hc dX7_move_19 (fgC_X7_17_39 _) (rC_39_3 _) ?_
  refine j_iload_n hc dX7_move_22 rfl ?_
  refine j_aload_n hc dX7_move_23 rfl ?_
  refine j_aload_n hc dX7_move_24 rfl ?_
  refine j_getR (u := 40) hc dX7_move_25 (fgC_X7_11_39 _) (rC_39_2 _) ?_
  refine j_iload_n hc dX7_move_28 rfl ?_
  refine j_iaload (n := 8) hc dX7_move_29 (kC_40 _) hf (fun v4 hf => ?_)
  refine j_callVI (t := 39) (As := [.int v4]) hc dX7_move_30 kw_819 mX7_restAt (kC_39 _) clX7 rfl (by omega) (Nat.le_of_ble_eq_true rfl) (Nat.le_of_ble_eq_true rfl) ⟨Nat.le_refl _, Nat.le_refl _⟩ hf (fun v I' L' h => qX7_restAt x.2.1 n d v4 I3 L2 v I' L' h) (fun v5 I5 L5 hf => ?_)
  refine j_iastore (n := 8) hc dX7_move_33 (kC_41 _) hf (fun I6 hf => ?_)
  refine j_aload_n hc dX7_move_34 rfl ?_
  refine j_iload_n hc dX7_move_35 rfl ?_
  refine j_callVV (t := 39) (As := [.int a1]) hc dX7_move_36 kw_827 mX7_lookAt (kC_39 _) clX7 rfl (by omega) (Nat.le_of_ble_eq_true rfl) (Nat.le_of_ble_eq_true rfl) ⟨Nat.le_refl _, Nat.le_refl _⟩ hf (fun I' L' h => qX7_lookAt x.2.1 n d a1 I6 L5 I' L' h) (fun I7 L7 hf => ?_)
  exact j_return hc dX7_move_39 rfl rfl hf

set_option maxRecDepth 100000 in
theorem qX7_move (l : Launch) {al : Bool} (n d : Nat) (a1 : Int32) (a2 : Int32) (I : am_I) (L : am_L) (I' : am_I) (L' : am_L) (hf : fX7_move n d a1 a2 I L = some (I', L')) : am_C l yX7_move cX7_move 3 none (d + 5) [.ref 39, .int a1, .int a2] (KC al) (RC al) I L none I' L' := by
  exact am_intro (plainFor_of_name plX7) (fun _ _ => trivial) (Nat.le_of_ble_eq_true rfl) (fun x hl hc => by subst hl; exact j_sub (tX7_move n d hc _ _ _ _ hf) (And.intro rfl (And.intro rfl (And.intro rfl (trivial)))))
set_option maxRecDepth 100000 in
def fX7_markDeed (n d : Nat) (a1 : Int32) (I : am_I) (L : am_L) : Option (am_I × am_L) :=
  am_lt (am_up I 39 4 ((I 39 4) ||| ((1 : Int32) <<< (a1 &&& 31)))) (fun I1 => some (I1, L))

set_option maxRecDepth 100000 in
set_option maxHeartbeats 4000000 in
theorem tX7_markDeed {x : am_X} {al : Bool} (n d : Nat) (hc : am_ok x cX7_markDeed yX7_markDeed 2 none (d + 1) 0 0) {I' : am_I} {L' : am_L} (a1 : Int32) (I : am_I) (L : am_L) (hf : fX7_markDeed n d a1 I L = some (I', L')) : am_J x (fun S => S = (none, (KC al), (RC al), I', L')) 0 [some (.ref 39), some (.int a1)] [] (KC al) (RC al) I L 0 0 := by
  unfold fX7_markDeed at hf
  refine j_aload_n hc dX7_markDeed_0 rfl ?_
  refine j_dup hc dX7_markDeed_1 rfl ?_
  refine j_getI hc dX7_markDeed_2 (fgC_X7_20_39 _) ?_
  refine j_iconst (v := (1 : Int32)) hc dX7_markDeed_5 ci_1 ?_
  refine j_iload_n hc dX7_markDeed_6 rfl ?_
  refine j_ishl hc dX7_markDeed_7 ?_
  refine j_ior hc dX7_markDeed_8 ?_
  refine j_putI hc dX7_markDeed_9 (fpC_X7_20_39 _) rfl rfl hf (fun I1 hf => ?_)
  exact j_return hc dX7_markDeed_12 rfl rfl hf

set_option maxRecDepth 100000 in
theorem qX7_markDeed (l : Launch) {al : Bool} (n d : Nat) (a1 : Int32) (I : am_I) (L : am_L) (I' : am_I) (L' : am_L) (hf : fX7_markDeed n d a1 I L = some (I', L')) : am_C l yX7_markDeed cX7_markDeed 2 none (d + 1) [.ref 39, .int a1] (KC al) (RC al) I L none I' L' := by
  exact am_intro (plainFor_of_name plX7) (fun _ _ => trivial) (Nat.le_of_ble_eq_true rfl) (fun x hl hc => by subst hl; exact j_sub (tX7_markDeed n d hc _ _ _ hf) (And.intro rfl (And.intro rfl (trivial))))
set_option maxRecDepth 100000 in
def fX5_add (n d : Nat) (a1 : Int32) (a2 : Int32) (a3 : Int32) (I : am_I) (L : am_L) : Option (am_I × am_L) :=
  am_b3 (fJ9_floorMod_7cf53 n d (I 42 3) (420 : Int32) I L) (fun v1 I1 L1 => am_ck v1 420 (am_lt (am_up I1 43 (v1).toNatClampNeg ((((a1 * (100 : Int32)) + ((a2 + (1 : Int32)) * (10 : Int32))) + a3) + (1 : Int32))) (fun I2 => am_lt (am_up I2 42 3 ((I2 42 3) + (1 : Int32))) (fun I3 => some (I3, L1)))))

set_option maxRecDepth 100000 in
set_option maxHeartbeats 4000000 in
theorem tX5_add {x : am_X} {al : Bool} (n d : Nat) (hc : am_ok x cX5_add yX5_add 4 none (d + 2) 0 0) {I' : am_I} {L' : am_L} (a1 : Int32) (a2 : Int32) (a3 : Int32) (I : am_I) (L : am_L) (hf : fX5_add n d a1 a2 a3 I L = some (I', L')) : am_J x (fun S => S = (none, (KC al), (RC al), I', L')) 0 [some (.ref 42), some (.int a1), some (.int a2), some (.int a3)] [] (KC al) (RC al) I L 0 0 := by
  unfold fX5_add at hf
  refine j_aload_n hc dX5_add_0 rfl ?_
  refine j_getR (u := 43) hc dX5_add_1 (fgC_X5_13_42 _) (rC_42_0 _) ?_
  refine j_aload_n hc dX5_add_4 rfl ?_
  refine j_getI hc dX5_add_5 (fgC_X5_24_42 _) ?_
  refine j_sipush (v := (420 : Int32)) hc dX5_add_8 cs_420 ?_
  refine j_callSI (As := [.int (I 42 3), .int (420 : Int32)]) hc dX5_add_11 kw_957 mJ9_floorMod_7cf53  rfl (by omega) (Nat.le_of_ble_eq_true rfl) (Nat.le_of_ble_eq_true rfl) ⟨Nat.le_refl _, Nat.le_refl _⟩ hf (fun v I' L' h => qJ9_floorMod_7cf53 x.2.1 n d (I 42 3) (420 : Int32) I L v I' L' h) (fun v1 I1 L1 hf => ?_)
  refine j_iload_n hc dX5_add_14 rfl ?_
  refine j_bipush (v := (100 : Int32)) hc dX5_add_15 cb_100 ?_
  refine j_imul hc dX5_add_17 ?_
  refine j_iload_n hc dX5_add_18 rfl ?_
  refine j_iconst (v := (1 : Int32)) hc dX5_add_19 ci_1 ?_
  refine j_iadd hc dX5_add_20 ?_
  refine j_bipush (v := (10 : Int32)) hc dX5_add_21 cb_10 ?_
  refine j_imul hc dX5_add_23 ?_
  refine j_iadd hc dX5_add_24 ?_
  refine j_iload_n hc dX5_add_25 rfl ?_
  refine j_iadd hc dX5_add_26 ?_
  refine j_iconst (v := (1 : Int32)) hc dX5_add_27 ci_1 ?_
  refine j_iadd hc dX5_add_28 ?_
  refine j_iastore (n := 420) hc dX5_add_29 (kC_43 _) hf (fun I2 hf => ?_)
  refine j_aload_n hc dX5_add_30 rfl ?_
  refine j_dup hc dX5_add_31 rfl ?_
  refine j_getI hc dX5_add_32 (fgC_X5_24_42 _) ?_
  refine j_iconst (v := (1 : Int32)) hc dX5_add_35 ci_1 ?_
  refine j_iadd hc dX5_add_36 ?_
  refine j_putI hc dX5_add_37 (fpC_X5_24_42 _) rfl rfl hf (fun I3 hf => ?_)
  exact j_return hc dX5_add_40 rfl rfl hf

set_option maxRecDepth 100000 in
theorem qX5_add (l : Launch) {al : Bool} (n d : Nat) (a1 : Int32) (a2 : Int32) (a3 : Int32) (I : am_I) (L : am_L) (I' : am_I) (L' : am_L) (hf : fX5_add n d a1 a2 a3 I L = some (I', L')) : am_C l yX5_add cX5_add 4 none (d + 2) [.ref 42, .int a1, .int a2, .int a3] (KC al) (RC al) I L none I' L' := by
  exact am_intro (plainFor_of_name plX5) (fun _ _ => trivial) (Nat.le_of_ble_eq_true rfl) (fun x hl hc => by subst hl; exact j_sub (tX5_add n d hc _ _ _ _ _ hf) (And.intro rfl (And.intro rfl (And.intro rfl (And.intro rfl (trivial))))))
set_option maxRecDepth 100000 in
def fX11_doGo (n d : Nat) (a1 : Int32) (I : am_I) (L : am_L) : Option (am_I × am_L) :=
  am_b2 (fX7_move n d a1 (1 : Int32) I L) (fun I1 L1 => am_b2 (fX7_markDeed n d a1 I1 L1) (fun I2 L2 => am_b2 (fX5_add n d (0 : Int32) a1 (-1 : Int32) I2 L2) (fun I3 L3 => some (I3, L3))))

set_option maxRecDepth 100000 in
set_option maxHeartbeats 4000000 in
theorem tX11_doGo {x : am_X} {al : Bool} (n d : Nat) (hc : am_ok x cX11_doGo yX11_doGo 2 none (d + 6) 0 0) {I' : am_I} {L' : am_L} (a1 : Int32) (I : am_I) (L : am_L) (hf : fX11_doGo n d a1 I L = some (I', L')) : am_J x (fun S => S = (none, (KC al), (RC al), I', L')) 0 [some (.ref 0), some (.int a1)] [] (KC al) (RC al) I L 0 0 := by
  unfold fX11_doGo at hf
  refine j_aload_n hc dX11_doGo_0 rfl ?_
  refine j_getR (u := 39) hc dX11_doGo_1 (fgC_X11_56_0 _) (rC_0_6 _) ?_
  refine j_iload_n hc dX11_doGo_4 rfl ?_
  refine j_iconst (v := (1 : Int32)) hc dX11_doGo_5 ci_1 ?_
  refine j_callVV (t := 39) (As := [.int a1, .int (1 : Int32)]) hc dX11_doGo_6 kw_944 mX7_move (kC_39 _) clX7 rfl (by omega) (Nat.le_of_ble_eq_true rfl) (Nat.le_of_ble_eq_true rfl) ⟨Nat.le_refl _, Nat.le_refl _⟩ hf (fun I' L' h => qX7_move x.2.1 n d a1 (1 : Int32) I L I' L' h) (fun I1 L1 hf => ?_)
  refine j_aload_n hc dX11_doGo_9 rfl ?_
  refine j_getR (u := 39) hc dX11_doGo_10 (fgC_X11_56_0 _) (rC_0_6 _) ?_
  refine j_iload_n hc dX11_doGo_13 rfl ?_
  refine j_callVV (t := 39) (As := [.int a1]) hc dX11_doGo_14 kw_949 mX7_markDeed (kC_39 _) clX7 rfl (by omega) (Nat.le_of_ble_eq_true rfl) (Nat.le_of_ble_eq_true rfl) ⟨Nat.le_refl _, Nat.le_refl _⟩ hf (fun I' L' h => qX7_markDeed x.2.1 n d a1 I1 L1 I' L' h) (fun I2 L2 hf => ?_)
  refine j_aload_n hc dX11_doGo_17 rfl ?_
  refine j_getR (u := 42) hc dX11_doGo_18 (fgC_X11_63_0 _) (rC_0_7 _) ?_
  refine j_iconst (v := (0 : Int32)) hc dX11_doGo_21 ci_0 ?_
  refine j_iload_n hc dX11_doGo_22 rfl ?_
  refine j_iconst (v := (-1 : Int32)) hc dX11_doGo_23 ci_m1 ?_
  refine j_callVV (t := 42) (As := [.int (0 : Int32), .int a1, .int (-1 : Int32)]) hc dX11_doGo_24 kw_953 mX5_add (kC_42 _) clX5 rfl (by omega) (Nat.le_of_ble_eq_true rfl) (Nat.le_of_ble_eq_true rfl) ⟨Nat.le_refl _, Nat.le_refl _⟩ hf (fun I' L' h => qX5_add x.2.1 n d (0 : Int32) a1 (-1 : Int32) I2 L2 I' L' h) (fun I3 L3 hf => ?_)
  exact j_return hc dX11_doGo_27 rfl rfl hf

set_option maxRecDepth 100000 in
theorem qX11_doGo (l : Launch) {al : Bool} (n d : Nat) (a1 : Int32) (I : am_I) (L : am_L) (I' : am_I) (L' : am_L) (hf : fX11_doGo n d a1 I L = some (I', L')) : am_C l yX11_doGo cX11_doGo 2 none (d + 6) [.ref 0, .int a1] (KC al) (RC al) I L none I' L' := by
  exact am_intro (plainFor_of_name plX11) (fun _ _ => trivial) (Nat.le_of_ble_eq_true rfl) (fun x hl hc => by subst hl; exact j_sub (tX11_doGo n d hc _ _ _ hf) (And.intro rfl (And.intro rfl (trivial))))
set_option maxRecDepth 100000 in
def fX11_go (n d : Nat) (a1 : Int32) (I : am_I) (L : am_L) : Option (Int32 × am_I × am_L) :=
  am_b3 (fX7_mayAct n d a1 I L) (fun v1 I1 L1 => if v1 = 0 then
    (some ((-1 : Int32), I1, L1))
    else
    (am_b3 (fX7_canGo n d a1 I1 L1) (fun v2 I2 L2 => if v2 = 0 then
      (some ((-1 : Int32), I2, L2))
      else
      (am_b2 (fX6_keepAct_road_logbook n d I2 L2) (fun I3 L3 => am_b2 (fX11_doGo n d a1 I3 L3) (fun I4 L4 => am_ck a1 8 (am_lt (I4 40 (a1).toNatClampNeg) (fun v5 => some (v5, I4, L4)))))))))

set_option maxRecDepth 100000 in
set_option maxHeartbeats 4000000 in
theorem tX11_go {x : am_X} {al : Bool} (n d : Nat) (hc : am_ok x cX11_go yX11_go 2 (some .int) (d + 7) 0 0) {r : Int32} {I' : am_I} {L' : am_L} (a1 : Int32) (I : am_I) (L : am_L) (hf : fX11_go n d a1 I L = some (r, I', L')) : am_J x (fun S => S = (some (.int r), (KC al), (RC al), I', L')) 0 [some (.ref 0), some (.int a1)] [] (KC al) (RC al) I L 0 0 := by
  unfold fX11_go at hf
  refine j_aload_n hc dX11_go_0 rfl ?_
  refine j_getR (u := 39) hc dX11_go_1 (fgC_X11_56_0 _) (rC_0_6 _) ?_
  refine j_iload_n hc dX11_go_4 rfl ?_
  refine j_callVI (t := 39) (As := [.int a1]) hc dX11_go_5 kw_895 mX7_mayAct (kC_39 _) clX7 rfl (by omega) (Nat.le_of_ble_eq_true rfl) (Nat.le_of_ble_eq_true rfl) ⟨Nat.le_refl _, Nat.le_refl _⟩ hf (fun v I' L' h => qX7_mayAct x.2.1 n d a1 I L v I' L' h) (fun v1 I1 L1 hf => ?_)
  refine j_if_eq (tgt := 22) hc dX11_go_8 rfl hf (fun hf => ?_) (fun hf => ?_)
  · refine j_iconst (v := (-1 : Int32)) hc dX11_go_22 ci_m1 ?_
    exact j_ireturn hc dX11_go_23 rfl rfl hf
  · refine j_aload_n hc dX11_go_11 rfl ?_
    refine j_getR (u := 39) hc dX11_go_12 (fgC_X11_56_0 _) (rC_0_6 _) ?_
    refine j_iload_n hc dX11_go_15 rfl ?_
    refine j_callVI (t := 39) (As := [.int a1]) hc dX11_go_16 kw_916 mX7_canGo (kC_39 _) clX7 rfl (by omega) (Nat.le_of_ble_eq_true rfl) (Nat.le_of_ble_eq_true rfl) ⟨Nat.le_refl _, Nat.le_refl _⟩ hf (fun v I' L' h => qX7_canGo x.2.1 n d a1 I1 L1 v I' L' h) (fun v2 I2 L2 hf => ?_)
    refine j_if_ne (tgt := 24) hc dX11_go_19 rfl hf (fun hf => ?_) (fun hf => ?_)
    · refine j_aload_n hc dX11_go_24 rfl ?_
      refine j_getR (u := 45) hc dX11_go_25 (fgC_X11_70_0 _) (rC_0_8 _) ?_
      refine j_aload_n hc dX11_go_28 rfl ?_
      refine j_getR (u := 39) hc dX11_go_29 (fgC_X11_56_0 _) (rC_0_6 _) ?_
      refine j_aload_n hc dX11_go_32 rfl ?_
      refine j_getR (u := 42) hc dX11_go_33 (fgC_X11_63_0 _) (rC_0_7 _) ?_
      refine j_callVV (t := 45) (As := [.ref 39, .ref 42]) hc dX11_go_36 kw_920 mX6_keepAct (kC_45 _) clX6 rfl (by omega) (Nat.le_of_ble_eq_true rfl) (Nat.le_of_ble_eq_true rfl) ⟨Nat.le_refl _, Nat.le_refl _⟩ hf (fun I' L' h => qX6_keepAct_road_logbook x.2.1 n d I2 L2 I' L' h) (fun I3 L3 hf => ?_)
      refine j_aload_n hc dX11_go_39 rfl ?_
      refine j_iload_n hc dX11_go_40 rfl ?_
      refine j_callVV (t := 0) (As := [.int a1]) hc dX11_go_41 kw_940 mX11_doGo (kC_0 _) clX11 rfl (by omega) (Nat.le_of_ble_eq_true rfl) (Nat.le_of_ble_eq_true rfl) ⟨Nat.le_refl _, Nat.le_refl _⟩ hf (fun I' L' h => qX11_doGo x.2.1 n d a1 I3 L3 I' L' h) (fun I4 L4 hf => ?_)
      refine j_aload_n hc dX11_go_44 rfl ?_
      refine j_getR (u := 39) hc dX11_go_45 (fgC_X11_56_0 _) (rC_0_6 _) ?_
      refine j_getR (u := 40) hc dX11_go_48 (fgC_X11_168_39 _) (rC_39_2 _) ?_
      refine j_iload_n hc dX11_go_51 rfl ?_
      refine j_iaload (n := 8) hc dX11_go_52 (kC_40 _) hf (fun v5 hf => ?_)
      exact j_ireturn hc dX11_go_53 rfl rfl hf
    · refine j_iconst (v := (-1 : Int32)) hc dX11_go_22 ci_m1 ?_
      exact j_ireturn hc dX11_go_23 rfl rfl hf

set_option maxRecDepth 100000 in
theorem qX11_go (l : Launch) {al : Bool} (n d : Nat) (a1 : Int32) (I : am_I) (L : am_L) (r : Int32) (I' : am_I) (L' : am_L) (hf : fX11_go n d a1 I L = some (r, I', L')) : am_C l yX11_go cX11_go 2 (some .int) (d + 7) [.ref 0, .int a1] (KC al) (RC al) I L (some (.int r)) I' L' := by
  exact am_intro (plainFor_of_name plX11) (fun _ _ => trivial) (Nat.le_of_ble_eq_true rfl) (fun x hl hc => by subst hl; exact j_sub (tX11_go n d hc _ _ _ hf) (And.intro rfl (And.intro rfl (trivial))))
set_option maxRecDepth 100000 in
def fX7_hasRest (n d : Nat) (a1 : Int32) (I : am_I) (L : am_L) : Option (Int32 × am_I × am_L) :=
  am_ck a1 8 (am_lt (I 41 (a1).toNatClampNeg) (fun v1 => if v1 ≤ 0 then
    (some ((0 : Int32), I, L))
    else
    (some ((1 : Int32), I, L))))

set_option maxRecDepth 100000 in
set_option maxHeartbeats 4000000 in
theorem tX7_hasRest {x : am_X} {al : Bool} (n d : Nat) (hc : am_ok x cX7_hasRest yX7_hasRest 2 (some .boolean) (d + 1) 0 0) {r : Int32} {I' : am_I} {L' : am_L} (a1 : Int32) (I : am_I) (L : am_L) (hf : fX7_hasRest n d a1 I L = some (r, I', L')) : am_J x (fun S => S = (some (.int r), (KC al), (RC al), I', L')) 0 [some (.ref 39), some (.int a1)] [] (KC al) (RC al) I L 0 0 := by
  unfold fX7_hasRest at hf
  refine j_aload_n hc dX7_hasRest_0 rfl ?_
  refine j_getR (u := 41) hc dX7_hasRest_1 (fgC_X7_17_39 _) (rC_39_3 _) ?_
  refine j_iload_n hc dX7_hasRest_4 rfl ?_
  refine j_iaload (n := 8) hc dX7_hasRest_5 (kC_41 _) hf (fun v1 hf => ?_)
  refine j_if_le (tgt := 13) hc dX7_hasRest_6 rfl hf (fun hf => ?_) (fun hf => ?_)
  · refine j_iconst (v := (0 : Int32)) hc dX7_hasRest_13 ci_0 ?_
    exact j_zret hc dX7_hasRest_14 rfl rfl (Or.inl rfl) hf
  · refine j_iconst (v := (1 : Int32)) hc dX7_hasRest_9 ci_1 ?_
    refine j_goto (tgt := 14) hc dX7_hasRest_10 rfl ?_
    exact j_zret hc dX7_hasRest_14 rfl rfl (Or.inr rfl) hf

set_option maxRecDepth 100000 in
theorem qX7_hasRest (l : Launch) {al : Bool} (n d : Nat) (a1 : Int32) (I : am_I) (L : am_L) (r : Int32) (I' : am_I) (L' : am_L) (hf : fX7_hasRest n d a1 I L = some (r, I', L')) : am_C l yX7_hasRest cX7_hasRest 2 (some .boolean) (d + 1) [.ref 39, .int a1] (KC al) (RC al) I L (some (.int r)) I' L' := by
  exact am_intro (plainFor_of_name plX7) (fun _ _ => trivial) (Nat.le_of_ble_eq_true rfl) (fun x hl hc => by subst hl; exact j_sub (tX7_hasRest n d hc _ _ _ hf) (And.intro rfl (And.intro rfl (trivial))))
set_option maxRecDepth 100000 in
def fX7_spendRest (n d : Nat) (a1 : Int32) (I : am_I) (L : am_L) : Option (am_I × am_L) :=
  am_ck a1 8 (am_lt (I 41 (a1).toNatClampNeg) (fun v1 => am_ck a1 8 (am_lt (am_up I 41 (a1).toNatClampNeg (v1 - (1 : Int32))) (fun I2 => some (I2, L)))))

set_option maxRecDepth 100000 in
set_option maxHeartbeats 4000000 in
theorem tX7_spendRest {x : am_X} {al : Bool} (n d : Nat) (hc : am_ok x cX7_spendRest yX7_spendRest 2 none (d + 1) 0 0) {I' : am_I} {L' : am_L} (a1 : Int32) (I : am_I) (L : am_L) (hf : fX7_spendRest n d a1 I L = some (I', L')) : am_J x (fun S => S = (none, (KC al), (RC al), I', L')) 0 [some (.ref 39), some (.int a1)] [] (KC al) (RC al) I L 0 0 := by
  unfold fX7_spendRest at hf
  refine j_aload_n hc dX7_spendRest_0 rfl ?_
  refine j_getR (u := 41) hc dX7_spendRest_1 (fgC_X7_17_39 _) (rC_39_3 _) ?_
  refine j_iload_n hc dX7_spendRest_4 rfl ?_
  refine j_dup2 hc dX7_spendRest_5 rfl rfl ?_
  refine j_iaload (n := 8) hc dX7_spendRest_6 (kC_41 _) hf (fun v1 hf => ?_)
  refine j_iconst (v := (1 : Int32)) hc dX7_spendRest_7 ci_1 ?_
  refine j_isub hc dX7_spendRest_8 ?_
  refine j_iastore (n := 8) hc dX7_spendRest_9 (kC_41 _) hf (fun I2 hf => ?_)
  exact j_return hc dX7_spendRest_10 rfl rfl hf

set_option maxRecDepth 100000 in
theorem qX7_spendRest (l : Launch) {al : Bool} (n d : Nat) (a1 : Int32) (I : am_I) (L : am_L) (I' : am_I) (L' : am_L) (hf : fX7_spendRest n d a1 I L = some (I', L')) : am_C l yX7_spendRest cX7_spendRest 2 none (d + 1) [.ref 39, .int a1] (KC al) (RC al) I L none I' L' := by
  exact am_intro (plainFor_of_name plX7) (fun _ _ => trivial) (Nat.le_of_ble_eq_true rfl) (fun x hl hc => by subst hl; exact j_sub (tX7_spendRest n d hc _ _ _ hf) (And.intro rfl (And.intro rfl (trivial))))
set_option maxRecDepth 100000 in
def fX11_doStay (n d : Nat) (a1 : Int32) (I : am_I) (L : am_L) : Option (am_I × am_L) :=
  am_b2 (fX7_spendRest n d a1 I L) (fun I1 L1 => am_b2 (fX7_markDeed n d a1 I1 L1) (fun I2 L2 => am_b2 (fX5_add n d (1 : Int32) a1 (-1 : Int32) I2 L2) (fun I3 L3 => some (I3, L3))))

set_option maxRecDepth 100000 in
set_option maxHeartbeats 4000000 in
theorem tX11_doStay {x : am_X} {al : Bool} (n d : Nat) (hc : am_ok x cX11_doStay yX11_doStay 2 none (d + 3) 0 0) {I' : am_I} {L' : am_L} (a1 : Int32) (I : am_I) (L : am_L) (hf : fX11_doStay n d a1 I L = some (I', L')) : am_J x (fun S => S = (none, (KC al), (RC al), I', L')) 0 [some (.ref 0), some (.int a1)] [] (KC al) (RC al) I L 0 0 := by
  unfold fX11_doStay at hf
  refine j_aload_n hc dX11_doStay_0 rfl ?_
  refine j_getR (u := 39) hc dX11_doStay_1 (fgC_X11_56_0 _) (rC_0_6 _) ?_
  refine j_iload_n hc dX11_doStay_4 rfl ?_
  refine j_callVV (t := 39) (As := [.int a1]) hc dX11_doStay_5 kw_970 mX7_spendRest (kC_39 _) clX7 rfl (by omega) (Nat.le_of_ble_eq_true rfl) (Nat.le_of_ble_eq_true rfl) ⟨Nat.le_refl _, Nat.le_refl _⟩ hf (fun I' L' h => qX7_spendRest x.2.1 n d a1 I L I' L' h) (fun I1 L1 hf => ?_)
  refine j_aload_n hc dX11_doStay_8 rfl ?_
  refine j_getR (u := 39) hc dX11_doStay_9 (fgC_X11_56_0 _) (rC_0_6 _) ?_
  refine j_iload_n hc dX11_doStay_12 rfl ?_
  refine j_callVV (t := 39) (As := [.int a1]) hc dX11_doStay_13 kw_949 mX7_markDeed (kC_39 _) clX7 rfl (by omega) (Nat.le_of_ble_eq_true rfl) (Nat.le_of_ble_eq_true rfl) ⟨Nat.le_refl _, Nat.le_refl _⟩ hf (fun I' L' h => qX7_markDeed x.2.1 n d a1 I1 L1 I' L' h) (fun I2 L2 hf => ?_)
  refine j_aload_n hc dX11_doStay_16 rfl ?_
  refine j_getR (u := 42) hc dX11_doStay_17 (fgC_X11_63_0 _) (rC_0_7 _) ?_
  refine j_iconst (v := (1 : Int32)) hc dX11_doStay_20 ci_1 ?_
  refine j_iload_n hc dX11_doStay_21 rfl ?_
  refine j_iconst (v := (-1 : Int32)) hc dX11_doStay_22 ci_m1 ?_
  refine j_callVV (t := 42) (As := [.int (1 : Int32), .int a1, .int (-1 : Int32)]) hc dX11_doStay_23 kw_953 mX5_add (kC_42 _) clX5 rfl (by omega) (Nat.le_of_ble_eq_true rfl) (Nat.le_of_ble_eq_true rfl) ⟨Nat.le_refl _, Nat.le_refl _⟩ hf (fun I' L' h => qX5_add x.2.1 n d (1 : Int32) a1 (-1 : Int32) I2 L2 I' L' h) (fun I3 L3 hf => ?_)
  exact j_return hc dX11_doStay_26 rfl rfl hf

set_option maxRecDepth 100000 in
theorem qX11_doStay (l : Launch) {al : Bool} (n d : Nat) (a1 : Int32) (I : am_I) (L : am_L) (I' : am_I) (L' : am_L) (hf : fX11_doStay n d a1 I L = some (I', L')) : am_C l yX11_doStay cX11_doStay 2 none (d + 3) [.ref 0, .int a1] (KC al) (RC al) I L none I' L' := by
  exact am_intro (plainFor_of_name plX11) (fun _ _ => trivial) (Nat.le_of_ble_eq_true rfl) (fun x hl hc => by subst hl; exact j_sub (tX11_doStay n d hc _ _ _ hf) (And.intro rfl (And.intro rfl (trivial))))
set_option maxRecDepth 100000 in
def fX11_stay (n d : Nat) (a1 : Int32) (I : am_I) (L : am_L) : Option (Int32 × am_I × am_L) :=
  am_b3 (fX7_mayAct n d a1 I L) (fun v1 I1 L1 => if v1 = 0 then
    (some ((-1 : Int32), I1, L1))
    else
    (am_b3 (fX7_hasRest n d a1 I1 L1) (fun v2 I2 L2 => if v2 = 0 then
      (some ((-1 : Int32), I2, L2))
      else
      (am_b2 (fX6_keepAct_road_logbook n d I2 L2) (fun I3 L3 => am_b2 (fX11_doStay n d a1 I3 L3) (fun I4 L4 => am_ck a1 8 (am_lt (I4 41 (a1).toNatClampNeg) (fun v5 => some (v5, I4, L4)))))))))

set_option maxRecDepth 100000 in
set_option maxHeartbeats 4000000 in
theorem tX11_stay {x : am_X} {al : Bool} (n d : Nat) (hc : am_ok x cX11_stay yX11_stay 2 (some .int) (d + 4) 0 0) {r : Int32} {I' : am_I} {L' : am_L} (a1 : Int32) (I : am_I) (L : am_L) (hf : fX11_stay n d a1 I L = some (r, I', L')) : am_J x (fun S => S = (some (.int r), (KC al), (RC al), I', L')) 0 [some (.ref 0), some (.int a1)] [] (KC al) (RC al) I L 0 0 := by
  unfold fX11_stay at hf
  refine j_aload_n hc dX11_stay_0 rfl ?_
  refine j_getR (u := 39) hc dX11_stay_1 (fgC_X11_56_0 _) (rC_0_6 _) ?_
  refine j_iload_n hc dX11_stay_4 rfl ?_
  refine j_callVI (t := 39) (As := [.int a1]) hc dX11_stay_5 kw_895 mX7_mayAct (kC_39 _) clX7 rfl (by omega) (Nat.le_of_ble_eq_true rfl) (Nat.le_of_ble_eq_true rfl) ⟨Nat.le_refl _, Nat.le_refl _⟩ hf (fun v I' L' h => qX7_mayAct x.2.1 n d a1 I L v I' L' h) (fun v1 I1 L1 hf => ?_)
  refine j_if_eq (tgt := 22) hc dX11_stay_8 rfl hf (fun hf => ?_) (fun hf => ?_)
  · refine j_iconst (v := (-1 : Int32)) hc dX11_stay_22 ci_m1 ?_
    exact j_ireturn hc dX11_stay_23 rfl rfl hf
  · refine j_aload_n hc dX11_stay_11 rfl ?_
    refine j_getR (u := 39) hc dX11_stay_12 (fgC_X11_56_0 _) (rC_0_6 _) ?_
    refine j_iload_n hc dX11_stay_15 rfl ?_
    refine j_callVI (t := 39) (As := [.int a1]) hc dX11_stay_16 kw_962 mX7_hasRest (kC_39 _) clX7 rfl (by omega) (Nat.le_of_ble_eq_true rfl) (Nat.le_of_ble_eq_true rfl) ⟨Nat.le_refl _, Nat.le_refl _⟩ hf (fun v I' L' h => qX7_hasRest x.2.1 n d a1 I1 L1 v I' L' h) (fun v2 I2 L2 hf => ?_)
    refine j_if_ne (tgt := 24) hc dX11_stay_19 rfl hf (fun hf => ?_) (fun hf => ?_)
    · refine j_aload_n hc dX11_stay_24 rfl ?_
      refine j_getR (u := 45) hc dX11_stay_25 (fgC_X11_70_0 _) (rC_0_8 _) ?_
      refine j_aload_n hc dX11_stay_28 rfl ?_
      refine j_getR (u := 39) hc dX11_stay_29 (fgC_X11_56_0 _) (rC_0_6 _) ?_
      refine j_aload_n hc dX11_stay_32 rfl ?_
      refine j_getR (u := 42) hc dX11_stay_33 (fgC_X11_63_0 _) (rC_0_7 _) ?_
      refine j_callVV (t := 45) (As := [.ref 39, .ref 42]) hc dX11_stay_36 kw_920 mX6_keepAct (kC_45 _) clX6 rfl (by omega) (Nat.le_of_ble_eq_true rfl) (Nat.le_of_ble_eq_true rfl) ⟨Nat.le_refl _, Nat.le_refl _⟩ hf (fun I' L' h => qX6_keepAct_road_logbook x.2.1 n d I2 L2 I' L' h) (fun I3 L3 hf => ?_)
      refine j_aload_n hc dX11_stay_39 rfl ?_
      refine j_iload_n hc dX11_stay_40 rfl ?_
      refine j_callVV (t := 0) (As := [.int a1]) hc dX11_stay_41 kw_966 mX11_doStay (kC_0 _) clX11 rfl (by omega) (Nat.le_of_ble_eq_true rfl) (Nat.le_of_ble_eq_true rfl) ⟨Nat.le_refl _, Nat.le_refl _⟩ hf (fun I' L' h => qX11_doStay x.2.1 n d a1 I3 L3 I' L' h) (fun I4 L4 hf => ?_)
      refine j_aload_n hc dX11_stay_44 rfl ?_
      refine j_getR (u := 39) hc dX11_stay_45 (fgC_X11_56_0 _) (rC_0_6 _) ?_
      refine j_getR (u := 41) hc dX11_stay_48 (fgC_X11_183_39 _) (rC_39_3 _) ?_
      refine j_iload_n hc dX11_stay_51 rfl ?_
      refine j_iaload (n := 8) hc dX11_stay_52 (kC_41 _) hf (fun v5 hf => ?_)
      exact j_ireturn hc dX11_stay_53 rfl rfl hf
    · refine j_iconst (v := (-1 : Int32)) hc dX11_stay_22 ci_m1 ?_
      exact j_ireturn hc dX11_stay_23 rfl rfl hf

set_option maxRecDepth 100000 in
theorem qX11_stay (l : Launch) {al : Bool} (n d : Nat) (a1 : Int32) (I : am_I) (L : am_L) (r : Int32) (I' : am_I) (L' : am_L) (hf : fX11_stay n d a1 I L = some (r, I', L')) : am_C l yX11_stay cX11_stay 2 (some .int) (d + 4) [.ref 0, .int a1] (KC al) (RC al) I L (some (.int r)) I' L' := by
  exact am_intro (plainFor_of_name plX11) (fun _ _ => trivial) (Nat.le_of_ble_eq_true rfl) (fun x hl hc => by subst hl; exact j_sub (tX11_stay n d hc _ _ _ hf) (And.intro rfl (And.intro rfl (trivial))))
set_option maxRecDepth 100000 in
def fX7_canPress_b37 (n d : Nat) (s0 : Int32) (a1 : Int32) (a2 : Int32) (I : am_I) (L : am_L) : Option (Int32 × am_I × am_L) :=
  am_lt s0 (fun v1 => if a1 = a2 then
    (some ((0 : Int32), I, L))
    else
    (if v1 = 0 then
      (some ((0 : Int32), I, L))
      else
      (am_b3 (fX7_hasRest n d a1 I L) (fun v2 I2 L2 => if v2 = 0 then
        (some ((0 : Int32), I2, L2))
        else
        (am_b3 (fX7_isHome n d a2 I2 L2) (fun v3 I3 L3 => if v3 = 0 then
          (am_b3 (fX7_canGo n d a2 I3 L3) (fun v4 I4 L4 => if v4 = 0 then
            (some ((0 : Int32), I4, L4))
            else
            (some ((1 : Int32), I4, L4))))
          else
          (some ((0 : Int32), I3, L3))))))))

set_option maxRecDepth 100000 in
set_option maxHeartbeats 4000000 in
theorem tX7_canPress_b37 {x : am_X} {al : Bool} (n d : Nat) (hc : am_ok x cX7_canPress yX7_canPress 4 (some .boolean) (d + 2) 0 0) {r : Int32} {I' : am_I} {L' : am_L} (s0 : Int32) (a1 : Int32) (a2 : Int32) (I : am_I) (L : am_L) (hf : fX7_canPress_b37 n d s0 a1 a2 I L = some (r, I', L')) : am_J x (fun S => S = (some (.int r), (KC al), (RC al), I', L')) 37 [some (.ref 39), some (.int a1), some (.int a2), none] [.int s0] (KC al) (RC al) I L 0 0 := by
  unfold fX7_canPress_b37 at hf
  refine j_istore_n hc dX7_canPress_37 (Nat.le_of_ble_eq_true rfl) hf (fun v1 hf => ?_)
  refine j_iload_n hc dX7_canPress_38 rfl ?_
  refine j_iload_n hc dX7_canPress_39 rfl ?_
  refine j_icmp_eq (tgt := 75) hc dX7_canPress_40 rfl hf (fun hf => ?_) (fun hf => ?_)
  · refine j_iconst (v := (0 : Int32)) hc dX7_canPress_75 ci_0 ?_
    exact j_zret hc dX7_canPress_76 rfl rfl (Or.inl rfl) hf
  · refine j_iload_n hc dX7_canPress_43 rfl ?_
    refine j_if_eq (tgt := 75) hc dX7_canPress_44 rfl hf (fun hf => ?_) (fun hf => ?_)
    · refine j_iconst (v := (0 : Int32)) hc dX7_canPress_75 ci_0 ?_
      exact j_zret hc dX7_canPress_76 rfl rfl (Or.inl rfl) hf
    · refine j_aload_n hc dX7_canPress_47 rfl ?_
      refine j_iload_n hc dX7_canPress_48 rfl ?_
      refine j_callVI (t := 39) (As := [.int a1]) hc dX7_canPress_49 kw_983 mX7_hasRest (kC_39 _) clX7 rfl (by omega) (Nat.le_of_ble_eq_true rfl) (Nat.le_of_ble_eq_true rfl) ⟨Nat.le_refl _, Nat.le_refl _⟩ hf (fun v I' L' h => qX7_hasRest x.2.1 n d a1 I L v I' L' h) (fun v2 I2 L2 hf => ?_)
      refine j_if_eq (tgt := 75) hc dX7_canPress_52 rfl hf (fun hf => ?_) (fun hf => ?_)
      · refine j_iconst (v := (0 : Int32)) hc dX7_canPress_75 ci_0 ?_
        exact j_zret hc dX7_canPress_76 rfl rfl (Or.inl rfl) hf
      · refine j_aload_n hc dX7_canPress_55 rfl ?_
        refine j_iload_n hc dX7_canPress_56 rfl ?_
        refine j_callVI (t := 39) (As := [.int a2]) hc dX7_canPress_57 kw_903 mX7_isHome (kC_39 _) clX7 rfl (by omega) (Nat.le_of_ble_eq_true rfl) (Nat.le_of_ble_eq_true rfl) ⟨Nat.le_refl _, Nat.le_refl _⟩ hf (fun v I' L' h => qX7_isHome x.2.1 n d a2 I2 L2 v I' L' h) (fun v3 I3 L3 hf => ?_)
        refine j_if_ne (tgt := 75) hc dX7_canPress_60 rfl hf (fun hf => ?_) (fun hf => ?_)
        · refine j_iconst (v := (0 : Int32)) hc dX7_canPress_75 ci_0 ?_
          exact j_zret hc dX7_canPress_76 rfl rfl (Or.inl rfl) hf
        · refine j_aload_n hc dX7_canPress_63 rfl ?_
          refine j_iload_n hc dX7_canPress_64 rfl ?_
          refine j_callVI (t := 39) (As := [.int a2]) hc dX7_canPress_65 kw_984 mX7_canGo (kC_39 _) clX7 rfl (by omega) (Nat.le_of_ble_eq_true rfl) (Nat.le_of_ble_eq_true rfl) ⟨Nat.le_refl _, Nat.le_refl _⟩ hf (fun v I' L' h => qX7_canGo x.2.1 n d a2 I3 L3 v I' L' h) (fun v4 I4 L4 hf => ?_)
          refine j_if_eq (tgt := 75) hc dX7_canPress_68 rfl hf (fun hf => ?_) (fun hf => ?_)
          · refine j_iconst (v := (0 : Int32)) hc dX7_canPress_75 ci_0 ?_
            exact j_zret hc dX7_canPress_76 rfl rfl (Or.inl rfl) hf
          · refine j_iconst (v := (1 : Int32)) hc dX7_canPress_71 ci_1 ?_
            refine j_goto (tgt := 76) hc dX7_canPress_72 rfl ?_
            exact j_zret hc dX7_canPress_76 rfl rfl (Or.inr rfl) hf

set_option maxRecDepth 100000 in
def fX7_canPress_b32 (n d : Nat) (a1 : Int32) (a2 : Int32) (I : am_I) (L : am_L) : Option (Int32 × am_I × am_L) :=
  fX7_canPress_b37 n d (1 : Int32) a1 a2 I L

set_option maxRecDepth 100000 in
set_option maxHeartbeats 4000000 in
theorem tX7_canPress_b32 {x : am_X} {al : Bool} (n d : Nat) (hc : am_ok x cX7_canPress yX7_canPress 4 (some .boolean) (d + 2) 0 0) {r : Int32} {I' : am_I} {L' : am_L} (a1 : Int32) (a2 : Int32) (I : am_I) (L : am_L) (hf : fX7_canPress_b32 n d a1 a2 I L = some (r, I', L')) : am_J x (fun S => S = (some (.int r), (KC al), (RC al), I', L')) 32 [some (.ref 39), some (.int a1), some (.int a2), none] [] (KC al) (RC al) I L 0 0 := by
  unfold fX7_canPress_b32 at hf
  refine j_iconst (v := (1 : Int32)) hc dX7_canPress_32 ci_1 ?_
  refine j_goto (tgt := 37) hc dX7_canPress_33 rfl ?_
  exact j_sub (tX7_canPress_b37 n d hc _ _ _ _ _ hf) (And.intro rfl (And.intro rfl (And.intro rfl (trivial))))

set_option maxRecDepth 100000 in
def fX7_canPress (n d : Nat) (a1 : Int32) (a2 : Int32) (I : am_I) (L : am_L) : Option (Int32 × am_I × am_L) :=
  if (I 3 3) = (1 : Int32) then
    (fX7_canPress_b32 n d a1 a2 I L)
    else
    (am_ck a1 8 (am_lt (I 4 (a1).toNatClampNeg) (fun v1 => am_ck a2 8 (am_lt (I 4 (a2).toNatClampNeg) (fun v2 => if v1 = v2 then
      (fX7_canPress_b37 n d (0 : Int32) a1 a2 I L)
      else
      (fX7_canPress_b32 n d a1 a2 I L))))))

set_option maxRecDepth 100000 in
set_option maxHeartbeats 4000000 in
theorem tX7_canPress {x : am_X} {al : Bool} (n d : Nat) (hc : am_ok x cX7_canPress yX7_canPress 4 (some .boolean) (d + 2) 0 0) {r : Int32} {I' : am_I} {L' : am_L} (a1 : Int32) (a2 : Int32) (I : am_I) (L : am_L) (hf : fX7_canPress n d a1 a2 I L = some (r, I', L')) : am_J x (fun S => S = (some (.int r), (KC al), (RC al), I', L')) 0 [some (.ref 39), some (.int a1), some (.int a2), none] [] (KC al) (RC al) I L 0 0 := by
  unfold fX7_canPress at hf
  refine j_aload_n hc dX7_canPress_0 rfl ?_
  refine j_getR (u := 3) hc dX7_canPress_1 (fgC_X7_30_39 _) (rC_39_0 _) ?_
  refine j_getI hc dX7_canPress_4 (fgC_X7_105_3 _) ?_
  refine j_iconst (v := (1 : Int32)) hc dX7_canPress_7 ci_1 ?_
  refine j_icmp_eq (tgt := 32) hc dX7_canPress_8 rfl hf (fun hf => ?_) (fun hf => ?_)
  · exact j_sub (tX7_canPress_b32 n d hc _ _ _ _ hf) (And.intro rfl (And.intro rfl (And.intro rfl (trivial))))
  · refine j_aload_n hc dX7_canPress_11 rfl ?_
    refine j_getR (u := 3) hc dX7_canPress_12 (fgC_X7_30_39 _) (rC_39_0 _) ?_
    refine j_getR (u := 4) hc dX7_canPress_15 (fgC_X7_78_3 _) (rC_3_5 _) ?_
    refine j_iload_n hc dX7_canPress_18 rfl ?_
    refine j_iaload (n := 8) hc dX7_canPress_19 (kC_4 _) hf (fun v1 hf => ?_)
    refine j_aload_n hc dX7_canPress_20 rfl ?_
    refine j_getR (u := 3) hc dX7_canPress_21 (fgC_X7_30_39 _) (rC_39_0 _) ?_
    refine j_getR (u := 4) hc dX7_canPress_24 (fgC_X7_78_3 _) (rC_3_5 _) ?_
    refine j_iload_n hc dX7_canPress_27 rfl ?_
    refine j_iaload (n := 8) hc dX7_canPress_28 (kC_4 _) hf (fun v2 hf => ?_)
    refine j_icmp_eq (tgt := 36) hc dX7_canPress_29 rfl hf (fun hf => ?_) (fun hf => ?_)
    · refine j_iconst (v := (0 : Int32)) hc dX7_canPress_36 ci_0 ?_
      exact j_sub (tX7_canPress_b37 n d hc _ _ _ _ _ hf) (And.intro rfl (And.intro rfl (And.intro rfl (trivial))))
    · exact j_sub (tX7_canPress_b32 n d hc _ _ _ _ hf) (And.intro rfl (And.intro rfl (And.intro rfl (trivial))))

set_option maxRecDepth 100000 in
theorem qX7_canPress (l : Launch) {al : Bool} (n d : Nat) (a1 : Int32) (a2 : Int32) (I : am_I) (L : am_L) (r : Int32) (I' : am_I) (L' : am_L) (hf : fX7_canPress n d a1 a2 I L = some (r, I', L')) : am_C l yX7_canPress cX7_canPress 4 (some .boolean) (d + 2) [.ref 39, .int a1, .int a2] (KC al) (RC al) I L (some (.int r)) I' L' := by
  exact am_intro (plainFor_of_name plX7) (fun _ _ => trivial) (Nat.le_of_ble_eq_true rfl) (fun x hl hc => by subst hl; exact j_sub (tX7_canPress n d hc _ _ _ _ hf) (And.intro rfl (And.intro rfl (And.intro rfl (trivial)))))
set_option maxRecDepth 100000 in
def fX11_doPress (n d : Nat) (a1 : Int32) (a2 : Int32) (I : am_I) (L : am_L) : Option (am_I × am_L) :=
  am_b2 (fX7_spendRest n d a1 I L) (fun I1 L1 => am_ck a1 8 (am_lt (I1 6 (a1).toNatClampNeg) (fun v2 => am_b2 (fX7_move n d a2 v2 I1 L1) (fun I3 L3 => am_b2 (fX7_markDeed n d a1 I3 L3) (fun I4 L4 => am_b2 (fX5_add n d (2 : Int32) a1 a2 I4 L4) (fun I5 L5 => some (I5, L5)))))))

set_option maxRecDepth 100000 in
set_option maxHeartbeats 4000000 in
theorem tX11_doPress {x : am_X} {al : Bool} (n d : Nat) (hc : am_ok x cX11_doPress yX11_doPress 3 none (d + 6) 0 0) {I' : am_I} {L' : am_L} (a1 : Int32) (a2 : Int32) (I : am_I) (L : am_L) (hf : fX11_doPress n d a1 a2 I L = some (I', L')) : am_J x (fun S => S = (none, (KC al), (RC al), I', L')) 0 [some (.ref 0), some (.int a1), some (.int a2)] [] (KC al) (RC al) I L 0 0 := by
  unfold fX11_doPress at hf
  refine j_aload_n hc dX11_doPress_0 rfl ?_
  refine j_getR (u := 39) hc dX11_doPress_1 (fgC_X11_56_0 _) (rC_0_6 _) ?_
  refine j_iload_n hc dX11_doPress_4 rfl ?_
  refine j_callVV (t := 39) (As := [.int a1]) hc dX11_doPress_5 kw_970 mX7_spendRest (kC_39 _) clX7 rfl (by omega) (Nat.le_of_ble_eq_true rfl) (Nat.le_of_ble_eq_true rfl) ⟨Nat.le_refl _, Nat.le_refl _⟩ hf (fun I' L' h => qX7_spendRest x.2.1 n d a1 I L I' L' h) (fun I1 L1 hf => ?_)
  refine j_aload_n hc dX11_doPress_8 rfl ?_
  refine j_getR (u := 39) hc dX11_doPress_9 (fgC_X11_56_0 _) (rC_0_6 _) ?_
  refine j_iload_n hc dX11_doPress_12 rfl ?_
  refine j_aload_n hc dX11_doPress_13 rfl ?_
  refine j_getR (u := 3) hc dX11_doPress_14 (fgC_X11_19_0 _) (rC_0_1 _) ?_
  refine j_getR (u := 6) hc dX11_doPress_17 (fgC_X11_171_3 _) (rC_3_7 _) ?_
  refine j_iload_n hc dX11_doPress_20 rfl ?_
  refine j_iaload (n := 8) hc dX11_doPress_21 (kC_6 _) hf (fun v2 hf => ?_)
  refine j_callVV (t := 39) (As := [.int a2, .int v2]) hc dX11_doPress_22 kw_944 mX7_move (kC_39 _) clX7 rfl (by omega) (Nat.le_of_ble_eq_true rfl) (Nat.le_of_ble_eq_true rfl) ⟨Nat.le_refl _, Nat.le_refl _⟩ hf (fun I' L' h => qX7_move x.2.1 n d a2 v2 I1 L1 I' L' h) (fun I3 L3 hf => ?_)
  refine j_aload_n hc dX11_doPress_25 rfl ?_
  refine j_getR (u := 39) hc dX11_doPress_26 (fgC_X11_56_0 _) (rC_0_6 _) ?_
  refine j_iload_n hc dX11_doPress_29 rfl ?_
  refine j_callVV (t := 39) (As := [.int a1]) hc dX11_doPress_30 kw_949 mX7_markDeed (kC_39 _) clX7 rfl (by omega) (Nat.le_of_ble_eq_true rfl) (Nat.le_of_ble_eq_true rfl) ⟨Nat.le_refl _, Nat.le_refl _⟩ hf (fun I' L' h => qX7_markDeed x.2.1 n d a1 I3 L3 I' L' h) (fun I4 L4 hf => ?_)
  refine j_aload_n hc dX11_doPress_33 rfl ?_
  refine j_getR (u := 42) hc dX11_doPress_34 (fgC_X11_63_0 _) (rC_0_7 _) ?_
  refine j_iconst (v := (2 : Int32)) hc dX11_doPress_37 ci_2 ?_
  refine j_iload_n hc dX11_doPress_38 rfl ?_
  refine j_iload_n hc dX11_doPress_39 rfl ?_
  refine j_callVV (t := 42) (As := [.int (2 : Int32), .int a1, .int a2]) hc dX11_doPress_40 kw_953 mX5_add (kC_42 _) clX5 rfl (by omega) (Nat.le_of_ble_eq_true rfl) (Nat.le_of_ble_eq_true rfl) ⟨Nat.le_refl _, Nat.le_refl _⟩ hf (fun I' L' h => qX5_add x.2.1 n d (2 : Int32) a1 a2 I4 L4 I' L' h) (fun I5 L5 hf => ?_)
  exact j_return hc dX11_doPress_43 rfl rfl hf

set_option maxRecDepth 100000 in
theorem qX11_doPress (l : Launch) {al : Bool} (n d : Nat) (a1 : Int32) (a2 : Int32) (I : am_I) (L : am_L) (I' : am_I) (L' : am_L) (hf : fX11_doPress n d a1 a2 I L = some (I', L')) : am_C l yX11_doPress cX11_doPress 3 none (d + 6) [.ref 0, .int a1, .int a2] (KC al) (RC al) I L none I' L' := by
  exact am_intro (plainFor_of_name plX11) (fun _ _ => trivial) (Nat.le_of_ble_eq_true rfl) (fun x hl hc => by subst hl; exact j_sub (tX11_doPress n d hc _ _ _ _ hf) (And.intro rfl (And.intro rfl (And.intro rfl (trivial)))))
set_option maxRecDepth 100000 in
def fX11_press (n d : Nat) (a1 : Int32) (a2 : Int32) (I : am_I) (L : am_L) : Option (Int32 × am_I × am_L) :=
  am_b3 (fX7_mayAct n d a1 I L) (fun v1 I1 L1 => if v1 = 0 then
    (some ((-1 : Int32), I1, L1))
    else
    (am_b3 (fX9_hasMan_war n d a2 I1 L1) (fun v2 I2 L2 => if v2 = 0 then
      (some ((-1 : Int32), I2, L2))
      else
      (am_b3 (fX7_canPress n d a1 a2 I2 L2) (fun v3 I3 L3 => if v3 = 0 then
        (some ((-1 : Int32), I3, L3))
        else
        (am_b2 (fX6_keepAct_road_logbook n d I3 L3) (fun I4 L4 => am_b2 (fX11_doPress n d a1 a2 I4 L4) (fun I5 L5 => am_ck a2 8 (am_lt (I5 40 (a2).toNatClampNeg) (fun v6 => some (v6, I5, L5)))))))))))

set_option maxRecDepth 100000 in
set_option maxHeartbeats 4000000 in
theorem tX11_press {x : am_X} {al : Bool} (n d : Nat) (hc : am_ok x cX11_press yX11_press 3 (some .int) (d + 7) 0 0) {r : Int32} {I' : am_I} {L' : am_L} (a1 : Int32) (a2 : Int32) (I : am_I) (L : am_L) (hf : fX11_press n d a1 a2 I L = some (r, I', L')) : am_J x (fun S => S = (some (.int r), (KC al), (RC al), I', L')) 0 [some (.ref 0), some (.int a1), some (.int a2)] [] (KC al) (RC al) I L 0 0 := by
  unfold fX11_press at hf
  refine j_aload_n hc dX11_press_0 rfl ?_
  refine j_getR (u := 39) hc dX11_press_1 (fgC_X11_56_0 _) (rC_0_6 _) ?_
  refine j_iload_n hc dX11_press_4 rfl ?_
  refine j_callVI (t := 39) (As := [.int a1]) hc dX11_press_5 kw_895 mX7_mayAct (kC_39 _) clX7 rfl (by omega) (Nat.le_of_ble_eq_true rfl) (Nat.le_of_ble_eq_true rfl) ⟨Nat.le_refl _, Nat.le_refl _⟩ hf (fun v I' L' h => qX7_mayAct x.2.1 n d a1 I L v I' L' h) (fun v1 I1 L1 hf => ?_)
  refine j_if_eq (tgt := 34) hc dX11_press_8 rfl hf (fun hf => ?_) (fun hf => ?_)
  · refine j_iconst (v := (-1 : Int32)) hc dX11_press_34 ci_m1 ?_
    exact j_ireturn hc dX11_press_35 rfl rfl hf
  · refine j_aload_n hc dX11_press_11 rfl ?_
    refine j_getR (u := 3) hc dX11_press_12 (fgC_X11_19_0 _) (rC_0_1 _) ?_
    refine j_iload_n hc dX11_press_15 rfl ?_
    refine j_callVI (t := 3) (As := [.int a2]) hc dX11_press_16 kw_978 mX9_hasMan (kC_3 _) clX9 rfl (by omega) (Nat.le_of_ble_eq_true rfl) (Nat.le_of_ble_eq_true rfl) ⟨Nat.le_refl _, Nat.le_refl _⟩ hf (fun v I' L' h => qX9_hasMan_war x.2.1 n d a2 I1 L1 v I' L' h) (fun v2 I2 L2 hf => ?_)
    refine j_if_eq (tgt := 34) hc dX11_press_19 rfl hf (fun hf => ?_) (fun hf => ?_)
    · refine j_iconst (v := (-1 : Int32)) hc dX11_press_34 ci_m1 ?_
      exact j_ireturn hc dX11_press_35 rfl rfl hf
    · refine j_aload_n hc dX11_press_22 rfl ?_
      refine j_getR (u := 39) hc dX11_press_23 (fgC_X11_56_0 _) (rC_0_6 _) ?_
      refine j_iload_n hc dX11_press_26 rfl ?_
      refine j_iload_n hc dX11_press_27 rfl ?_
      refine j_callVI (t := 39) (As := [.int a1, .int a2]) hc dX11_press_28 kw_979 mX7_canPress (kC_39 _) clX7 rfl (by omega) (Nat.le_of_ble_eq_true rfl) (Nat.le_of_ble_eq_true rfl) ⟨Nat.le_refl _, Nat.le_refl _⟩ hf (fun v I' L' h => qX7_canPress x.2.1 n d a1 a2 I2 L2 v I' L' h) (fun v3 I3 L3 hf => ?_)
      refine j_if_ne (tgt := 36) hc dX11_press_31 rfl hf (fun hf => ?_) (fun hf => ?_)
      · refine j_aload_n hc dX11_press_36 rfl ?_
        refine j_getR (u := 45) hc dX11_press_37 (fgC_X11_70_0 _) (rC_0_8 _) ?_
        refine j_aload_n hc dX11_press_40 rfl ?_
        refine j_getR (u := 39) hc dX11_press_41 (fgC_X11_56_0 _) (rC_0_6 _) ?_
        refine j_aload_n hc dX11_press_44 rfl ?_
        refine j_getR (u := 42) hc dX11_press_45 (fgC_X11_63_0 _) (rC_0_7 _) ?_
        refine j_callVV (t := 45) (As := [.ref 39, .ref 42]) hc dX11_press_48 kw_920 mX6_keepAct (kC_45 _) clX6 rfl (by omega) (Nat.le_of_ble_eq_true rfl) (Nat.le_of_ble_eq_true rfl) ⟨Nat.le_refl _, Nat.le_refl _⟩ hf (fun I' L' h => qX6_keepAct_road_logbook x.2.1 n d I3 L3 I' L' h) (fun I4 L4 hf => ?_)
        refine j_aload_n hc dX11_press_51 rfl ?_
        refine j_iload_n hc dX11_press_52 rfl ?_
        refine j_iload_n hc dX11_press_53 rfl ?_
        refine j_callVV (t := 0) (As := [.int a1, .int a2]) hc dX11_press_54 kw_985 mX11_doPress (kC_0 _) clX11 rfl (by omega) (Nat.le_of_ble_eq_true rfl) (Nat.le_of_ble_eq_true rfl) ⟨Nat.le_refl _, Nat.le_refl _⟩ hf (fun I' L' h => qX11_doPress x.2.1 n d a1 a2 I4 L4 I' L' h) (fun I5 L5 hf => ?_)
        refine j_aload_n hc dX11_press_57 rfl ?_
        refine j_getR (u := 39) hc dX11_press_58 (fgC_X11_56_0 _) (rC_0_6 _) ?_
        refine j_getR (u := 40) hc dX11_press_61 (fgC_X11_168_39 _) (rC_39_2 _) ?_
        refine j_iload_n hc dX11_press_64 rfl ?_
        refine j_iaload (n := 8) hc dX11_press_65 (kC_40 _) hf (fun v6 hf => ?_)
        exact j_ireturn hc dX11_press_66 rfl rfl hf
      · refine j_iconst (v := (-1 : Int32)) hc dX11_press_34 ci_m1 ?_
        exact j_ireturn hc dX11_press_35 rfl rfl hf

set_option maxRecDepth 100000 in
theorem qX11_press (l : Launch) {al : Bool} (n d : Nat) (a1 : Int32) (a2 : Int32) (I : am_I) (L : am_L) (r : Int32) (I' : am_I) (L' : am_L) (hf : fX11_press n d a1 a2 I L = some (r, I', L')) : am_C l yX11_press cX11_press 3 (some .int) (d + 7) [.ref 0, .int a1, .int a2] (KC al) (RC al) I L (some (.int r)) I' L' := by
  exact am_intro (plainFor_of_name plX11) (fun _ _ => trivial) (Nat.le_of_ble_eq_true rfl) (fun x hl hc => by subst hl; exact j_sub (tX11_press n d hc _ _ _ _ hf) (And.intro rfl (And.intro rfl (And.intro rfl (trivial)))))
set_option maxRecDepth 100000 in
def fX7_beginNextDay (n d : Nat) (I : am_I) (L : am_L) : Option (am_I × am_L) :=
  am_lt (am_up I 39 5 ((I 39 5) + (1 : Int32))) (fun I1 => am_lt (am_up I1 39 4 (0 : Int32)) (fun I2 => am_b2 (fX7_lookAtAll n d I2 L) (fun I3 L3 => some (I3, L3))))

set_option maxRecDepth 100000 in
set_option maxHeartbeats 4000000 in
theorem tX7_beginNextDay {x : am_X} {al : Bool} (n d : Nat) (hc : am_ok x cX7_beginNextDay yX7_beginNextDay 1 none (d + 6) 0 0) {I' : am_I} {L' : am_L} (I : am_I) (L : am_L) (hf : fX7_beginNextDay n d I L = some (I', L')) : am_J x (fun S => S = (none, (KC al), (RC al), I', L')) 0 [some (.ref 39)] [] (KC al) (RC al) I L 0 0 := by
  unfold fX7_beginNextDay at hf
  refine j_aload_n hc dX7_beginNextDay_0 rfl ?_
  refine j_dup hc dX7_beginNextDay_1 rfl ?_
  refine j_getI hc dX7_beginNextDay_2 (fgC_X7_24_39 _) ?_
  refine j_iconst (v := (1 : Int32)) hc dX7_beginNextDay_5 ci_1 ?_
  refine j_iadd hc dX7_beginNextDay_6 ?_
  refine j_putI hc dX7_beginNextDay_7 (fpC_X7_24_39 _) rfl rfl hf (fun I1 hf => ?_)
  refine j_aload_n hc dX7_beginNextDay_10 rfl ?_
  refine j_iconst (v := (0 : Int32)) hc dX7_beginNextDay_11 ci_0 ?_
  refine j_putI hc dX7_beginNextDay_12 (fpC_X7_20_39 _) rfl rfl hf (fun I2 hf => ?_)
  refine j_aload_n hc dX7_beginNextDay_15 rfl ?_
  refine j_callVV (t := 39) (As := []) hc dX7_beginNextDay_16 kw_823 mX7_lookAtAll (kC_39 _) clX7 rfl (by omega) (Nat.le_of_ble_eq_true rfl) (Nat.le_of_ble_eq_true rfl) ⟨Nat.le_refl _, Nat.le_refl _⟩ hf (fun I' L' h => qX7_lookAtAll x.2.1 n d I2 L I' L' h) (fun I3 L3 hf => ?_)
  exact j_return hc dX7_beginNextDay_19 rfl rfl hf

set_option maxRecDepth 100000 in
theorem qX7_beginNextDay (l : Launch) {al : Bool} (n d : Nat) (I : am_I) (L : am_L) (I' : am_I) (L' : am_L) (hf : fX7_beginNextDay n d I L = some (I', L')) : am_C l yX7_beginNextDay cX7_beginNextDay 1 none (d + 6) [.ref 39] (KC al) (RC al) I L none I' L' := by
  exact am_intro (plainFor_of_name plX7) (fun _ _ => trivial) (Nat.le_of_ble_eq_true rfl) (fun x hl hc => by subst hl; exact j_sub (tX7_beginNextDay n d hc  _ _ hf) (And.intro rfl (trivial)))
set_option maxRecDepth 100000 in
def fX11_endDay (n d : Nat) (I : am_I) (L : am_L) : Option (am_I × am_L) :=
  am_b2 (fX7_beginNextDay n d I L) (fun I1 L1 => am_b2 (fX5_add n d (3 : Int32) (-1 : Int32) (-1 : Int32) I1 L1) (fun I2 L2 => some (I2, L2)))

set_option maxRecDepth 100000 in
set_option maxHeartbeats 4000000 in
theorem tX11_endDay {x : am_X} {al : Bool} (n d : Nat) (hc : am_ok x cX11_endDay yX11_endDay 1 none (d + 7) 0 0) {I' : am_I} {L' : am_L} (I : am_I) (L : am_L) (hf : fX11_endDay n d I L = some (I', L')) : am_J x (fun S => S = (none, (KC al), (RC al), I', L')) 0 [some (.ref 0)] [] (KC al) (RC al) I L 0 0 := by
  unfold fX11_endDay at hf
  refine j_aload_n hc dX11_endDay_0 rfl ?_
  refine j_getR (u := 39) hc dX11_endDay_1 (fgC_X11_56_0 _) (rC_0_6 _) ?_
  refine j_callVV (t := 39) (As := []) hc dX11_endDay_4 kw_1000 mX7_beginNextDay (kC_39 _) clX7 rfl (by omega) (Nat.le_of_ble_eq_true rfl) (Nat.le_of_ble_eq_true rfl) ⟨Nat.le_refl _, Nat.le_refl _⟩ hf (fun I' L' h => qX7_beginNextDay x.2.1 n d I L I' L' h) (fun I1 L1 hf => ?_)
  refine j_aload_n hc dX11_endDay_7 rfl ?_
  refine j_getR (u := 42) hc dX11_endDay_8 (fgC_X11_63_0 _) (rC_0_7 _) ?_
  refine j_iconst (v := (3 : Int32)) hc dX11_endDay_11 ci_3 ?_
  refine j_iconst (v := (-1 : Int32)) hc dX11_endDay_12 ci_m1 ?_
  refine j_iconst (v := (-1 : Int32)) hc dX11_endDay_13 ci_m1 ?_
  refine j_callVV (t := 42) (As := [.int (3 : Int32), .int (-1 : Int32), .int (-1 : Int32)]) hc dX11_endDay_14 kw_953 mX5_add (kC_42 _) clX5 rfl (by omega) (Nat.le_of_ble_eq_true rfl) (Nat.le_of_ble_eq_true rfl) ⟨Nat.le_refl _, Nat.le_refl _⟩ hf (fun I' L' h => qX5_add x.2.1 n d (3 : Int32) (-1 : Int32) (-1 : Int32) I1 L1 I' L' h) (fun I2 L2 hf => ?_)
  exact j_return hc dX11_endDay_17 rfl rfl hf

set_option maxRecDepth 100000 in
theorem qX11_endDay (l : Launch) {al : Bool} (n d : Nat) (I : am_I) (L : am_L) (I' : am_I) (L' : am_L) (hf : fX11_endDay n d I L = some (I', L')) : am_C l yX11_endDay cX11_endDay 1 none (d + 7) [.ref 0] (KC al) (RC al) I L none I' L' := by
  exact am_intro (plainFor_of_name plX11) (fun _ _ => trivial) (Nat.le_of_ble_eq_true rfl) (fun x hl hc => by subst hl; exact j_sub (tX11_endDay n d hc  _ _ hf) (And.intro rfl (trivial)))
set_option maxRecDepth 100000 in
def fX11_evening_b121 (n d : Nat) (I : am_I) (L : am_L) : Option (Int32 × am_I × am_L) :=
  am_b2 (fX11_endDay n d I L) (fun I1 L1 => some ((I1 39 5), I1, L1))

set_option maxRecDepth 100000 in
set_option maxHeartbeats 4000000 in
theorem tX11_evening_b121 {x : am_X} {al : Bool} (n d : Nat) (hc : am_ok x cX11_evening yX11_evening 2 (some .int) (d + 8) 0 0) {r : Int32} {I' : am_I} {L' : am_L} (I : am_I) (L : am_L) (hf : fX11_evening_b121 n d I L = some (r, I', L')) : am_J x (fun S => S = (some (.int r), (KC al), (RC al), I', L')) 121 [some (.ref 0), none] [] (KC al) (RC al) I L 0 0 := by
  unfold fX11_evening_b121 at hf
  refine j_aload_n hc dX11_evening_121 rfl ?_
  refine j_callVV (t := 0) (As := []) hc dX11_evening_122 kw_996 mX11_endDay (kC_0 _) clX11 rfl (by omega) (Nat.le_of_ble_eq_true rfl) (Nat.le_of_ble_eq_true rfl) ⟨Nat.le_refl _, Nat.le_refl _⟩ hf (fun I' L' h => qX11_endDay x.2.1 n d I L I' L' h) (fun I1 L1 hf => ?_)
  refine j_aload_n hc dX11_evening_125 rfl ?_
  refine j_getR (u := 39) hc dX11_evening_126 (fgC_X11_56_0 _) (rC_0_6 _) ?_
  refine j_getI hc dX11_evening_129 (fgC_X11_215_39 _) ?_
  exact j_ireturn hc dX11_evening_132 rfl rfl hf

set_option maxRecDepth 100000 in
def fX11_evening_b115 (n d : Nat) (k52 : Int32 → am_I → am_L → Option (Int32 × am_I × am_L)) (a1 : Int32) (I : am_I) (L : am_L) : Option (Int32 × am_I × am_L) :=
  am_lt (a1 + (1 : Int32)) (fun v1 => k52 v1 I L)

set_option maxRecDepth 100000 in
set_option maxHeartbeats 4000000 in
theorem tX11_evening_b115 {x : am_X} {al : Bool} (n d : Nat) (hc : am_ok x cX11_evening yX11_evening 2 (some .int) (d + 8) 0 0) {r : Int32} {I' : am_I} {L' : am_L} (k52 : Int32 → am_I → am_L → Option (Int32 × am_I × am_L)) (hk52 : ∀ (a1 : Int32) (I : am_I) (L : am_L), k52 a1 I L = some (r, I', L') → am_J x (fun S => S = (some (.int r), (KC al), (RC al), I', L')) 52 [some (.ref 0), some (.int a1)] [] (KC al) (RC al) I L 0 0) (a1 : Int32) (I : am_I) (L : am_L) (hf : fX11_evening_b115 n d k52 a1 I L = some (r, I', L')) : am_J x (fun S => S = (some (.int r), (KC al), (RC al), I', L')) 115 [some (.ref 0), some (.int a1)] [] (KC al) (RC al) I L 0 0 := by
  unfold fX11_evening_b115 at hf
  refine j_iinc (w := (1 : Int32)) hc dX11_evening_115 rfl ci_1 (Nat.le_of_ble_eq_true rfl) hf (fun v1 hf => ?_)
  refine j_goto (tgt := 52) hc dX11_evening_118 rfl ?_
  exact j_sub (hk52 _ _ _ hf) (And.intro rfl (And.intro rfl (trivial)))

set_option maxRecDepth 100000 in
def fX11_evening_b52w (n d : Nat) (k52 : Int32 → am_I → am_L → Option (Int32 × am_I × am_L)) (a1 : Int32) (I : am_I) (L : am_L) : Option (Int32 × am_I × am_L) :=
  if (I 3 0) ≤ a1 then
    (fX11_evening_b121 n d I L)
    else
    (am_b3 (fX7_isOver n d I L) (fun v1 I1 L1 => if v1 = 0 then
      (am_b3 (fX7_isHome n d a1 I1 L1) (fun v2 I2 L2 => if v2 = 0 then
        (am_b3 (fX7_didDeed n d a1 I2 L2) (fun v3 I3 L3 => if v3 = 0 then
          (am_b3 (fX7_canGo n d a1 I3 L3) (fun v4 I4 L4 => if v4 = 0 then
            (fX11_evening_b115 n d k52 a1 I4 L4)
            else
            (am_b2 (fX7_move n d a1 (1 : Int32) I4 L4) (fun I5 L5 => fX11_evening_b115 n d k52 a1 I5 L5))))
          else
          (fX11_evening_b115 n d k52 a1 I3 L3)))
        else
        (fX11_evening_b115 n d k52 a1 I2 L2)))
      else
      (fX11_evening_b121 n d I1 L1)))

set_option maxRecDepth 100000 in
set_option maxHeartbeats 4000000 in
theorem tX11_evening_b52w {x : am_X} {al : Bool} (n d : Nat) (hc : am_ok x cX11_evening yX11_evening 2 (some .int) (d + 8) 0 0) {r : Int32} {I' : am_I} {L' : am_L} (k52 : Int32 → am_I → am_L → Option (Int32 × am_I × am_L)) (hk52 : ∀ (a1 : Int32) (I : am_I) (L : am_L), k52 a1 I L = some (r, I', L') → am_J x (fun S => S = (some (.int r), (KC al), (RC al), I', L')) 52 [some (.ref 0), some (.int a1)] [] (KC al) (RC al) I L 0 0) (a1 : Int32) (I : am_I) (L : am_L) (hf : fX11_evening_b52w n d k52 a1 I L = some (r, I', L')) : am_J x (fun S => S = (some (.int r), (KC al), (RC al), I', L')) 52 [some (.ref 0), some (.int a1)] [] (KC al) (RC al) I L 0 0 := by
  unfold fX11_evening_b52w at hf
  refine j_iload_n hc dX11_evening_52 rfl ?_
  refine j_aload_n hc dX11_evening_53 rfl ?_
  refine j_getR (u := 3) hc dX11_evening_54 (fgC_X11_19_0 _) (rC_0_1 _) ?_
  refine j_getI hc dX11_evening_57 (fgC_X11_151_3 _) ?_
  refine j_icmp_ge (tgt := 121) hc dX11_evening_60 rfl hf (fun hf => ?_) (fun hf => ?_)
  · exact j_sub (tX11_evening_b121 n d hc _ _ hf) (And.intro rfl (trivial))
  · refine j_aload_n hc dX11_evening_63 rfl ?_
    refine j_getR (u := 39) hc dX11_evening_64 (fgC_X11_56_0 _) (rC_0_6 _) ?_
    refine j_callVI (t := 39) (As := []) hc dX11_evening_67 kw_993 mX7_isOver (kC_39 _) clX7 rfl (by omega) (Nat.le_of_ble_eq_true rfl) (Nat.le_of_ble_eq_true rfl) ⟨Nat.le_refl _, Nat.le_refl _⟩ hf (fun v I' L' h => qX7_isOver x.2.1 n d I L v I' L' h) (fun v1 I1 L1 hf => ?_)
    refine j_if_ne (tgt := 121) hc dX11_evening_70 rfl hf (fun hf => ?_) (fun hf => ?_)
    · exact j_sub (tX11_evening_b121 n d hc _ _ hf) (And.intro rfl (trivial))
    · refine j_aload_n hc dX11_evening_73 rfl ?_
      refine j_getR (u := 39) hc dX11_evening_74 (fgC_X11_56_0 _) (rC_0_6 _) ?_
      refine j_iload_n hc dX11_evening_77 rfl ?_
      refine j_callVI (t := 39) (As := [.int a1]) hc dX11_evening_78 kw_994 mX7_isHome (kC_39 _) clX7 rfl (by omega) (Nat.le_of_ble_eq_true rfl) (Nat.le_of_ble_eq_true rfl) ⟨Nat.le_refl _, Nat.le_refl _⟩ hf (fun v I' L' h => qX7_isHome x.2.1 n d a1 I1 L1 v I' L' h) (fun v2 I2 L2 hf => ?_)
      refine j_if_ne (tgt := 115) hc dX11_evening_81 rfl hf (fun hf => ?_) (fun hf => ?_)
      · exact j_sub (tX11_evening_b115 n d hc k52 hk52 _ _ _ hf) (And.intro rfl (And.intro rfl (trivial)))
      · refine j_aload_n hc dX11_evening_84 rfl ?_
        refine j_getR (u := 39) hc dX11_evening_85 (fgC_X11_56_0 _) (rC_0_6 _) ?_
        refine j_iload_n hc dX11_evening_88 rfl ?_
        refine j_callVI (t := 39) (As := [.int a1]) hc dX11_evening_89 kw_995 mX7_didDeed (kC_39 _) clX7 rfl (by omega) (Nat.le_of_ble_eq_true rfl) (Nat.le_of_ble_eq_true rfl) ⟨Nat.le_refl _, Nat.le_refl _⟩ hf (fun v I' L' h => qX7_didDeed x.2.1 n d a1 I2 L2 v I' L' h) (fun v3 I3 L3 hf => ?_)
        refine j_if_ne (tgt := 115) hc dX11_evening_92 rfl hf (fun hf => ?_) (fun hf => ?_)
        · exact j_sub (tX11_evening_b115 n d hc k52 hk52 _ _ _ hf) (And.intro rfl (And.intro rfl (trivial)))
        · refine j_aload_n hc dX11_evening_95 rfl ?_
          refine j_getR (u := 39) hc dX11_evening_96 (fgC_X11_56_0 _) (rC_0_6 _) ?_
          refine j_iload_n hc dX11_evening_99 rfl ?_
          refine j_callVI (t := 39) (As := [.int a1]) hc dX11_evening_100 kw_916 mX7_canGo (kC_39 _) clX7 rfl (by omega) (Nat.le_of_ble_eq_true rfl) (Nat.le_of_ble_eq_true rfl) ⟨Nat.le_refl _, Nat.le_refl _⟩ hf (fun v I' L' h => qX7_canGo x.2.1 n d a1 I3 L3 v I' L' h) (fun v4 I4 L4 hf => ?_)
          refine j_if_eq (tgt := 115) hc dX11_evening_103 rfl hf (fun hf => ?_) (fun hf => ?_)
          · exact j_sub (tX11_evening_b115 n d hc k52 hk52 _ _ _ hf) (And.intro rfl (And.intro rfl (trivial)))
          · refine j_aload_n hc dX11_evening_106 rfl ?_
            refine j_getR (u := 39) hc dX11_evening_107 (fgC_X11_56_0 _) (rC_0_6 _) ?_
            refine j_iload_n hc dX11_evening_110 rfl ?_
            refine j_iconst (v := (1 : Int32)) hc dX11_evening_111 ci_1 ?_
            refine j_callVV (t := 39) (As := [.int a1, .int (1 : Int32)]) hc dX11_evening_112 kw_944 mX7_move (kC_39 _) clX7 rfl (by omega) (Nat.le_of_ble_eq_true rfl) (Nat.le_of_ble_eq_true rfl) ⟨Nat.le_refl _, Nat.le_refl _⟩ hf (fun I' L' h => qX7_move x.2.1 n d a1 (1 : Int32) I4 L4 I' L' h) (fun I5 L5 hf => ?_)
            exact j_sub (tX11_evening_b115 n d hc k52 hk52 _ _ _ hf) (And.intro rfl (And.intro rfl (trivial)))

def fX11_evening_b52 (n d : Nat) : Nat → Int32 → am_I → am_L → Option (Int32 × am_I × am_L)
  | 0 => fun _ _ _ => none
  | m + 1 => fX11_evening_b52w n d  (fX11_evening_b52 n d m)

set_option maxRecDepth 100000 in
theorem tX11_evening_b52 {x : am_X} {al : Bool} (n d : Nat) (hc : am_ok x cX11_evening yX11_evening 2 (some .int) (d + 8) 0 0) {r : Int32} {I' : am_I} {L' : am_L} (m : Nat) : ∀ (a1 : Int32) (I : am_I) (L : am_L) (hf : fX11_evening_b52 n d m a1 I L = some (r, I', L')), am_J x (fun S => S = (some (.int r), (KC al), (RC al), I', L')) 52 [some (.ref 0), some (.int a1)] [] (KC al) (RC al) I L 0 0 := by
  induction m with
  | zero => intro a1 I L hf; exact (Option.some_ne_none _ hf.symm).elim
  | succ m ih => intro a1 I L hf; exact tX11_evening_b52w n d hc (fX11_evening_b52 n d m) ih a1 I L hf

set_option maxRecDepth 100000 in
def fX11_evening (n d : Nat) (I : am_I) (L : am_L) : Option (Int32 × am_I × am_L) :=
  if (I 3 0) = 0 then
    (some ((-1 : Int32), I, L))
    else
    (am_b3 (fX7_isOver n d I L) (fun v1 I1 L1 => if v1 = 0 then
      (if (I1 39 5) < (9999 : Int32) then
        (am_b2 (fX6_keepAct_road_logbook n d I1 L1) (fun I2 L2 => am_lt (0 : Int32) (fun v3 => fX11_evening_b52 n d n v3 I2 L2)))
        else
        (some ((-1 : Int32), I1, L1)))
      else
      (some ((-1 : Int32), I1, L1))))

set_option maxRecDepth 100000 in
set_option maxHeartbeats 4000000 in
theorem tX11_evening {x : am_X} {al : Bool} (n d : Nat) (hc : am_ok x cX11_evening yX11_evening 2 (some .int) (d + 8) 0 0) {r : Int32} {I' : am_I} {L' : am_L} (I : am_I) (L : am_L) (hf : fX11_evening n d I L = some (r, I', L')) : am_J x (fun S => S = (some (.int r), (KC al), (RC al), I', L')) 0 [some (.ref 0), none] [] (KC al) (RC al) I L 0 0 := by
  unfold fX11_evening at hf
  refine j_aload_n hc dX11_evening_0 rfl ?_
  refine j_getR (u := 3) hc dX11_evening_1 (fgC_X11_19_0 _) (rC_0_1 _) ?_
  refine j_getI hc dX11_evening_4 (fgC_X11_151_3 _) ?_
  refine j_if_eq (tgt := 33) hc dX11_evening_7 rfl hf (fun hf => ?_) (fun hf => ?_)
  · refine j_iconst (v := (-1 : Int32)) hc dX11_evening_33 ci_m1 ?_
    exact j_ireturn hc dX11_evening_34 rfl rfl hf
  · refine j_aload_n hc dX11_evening_10 rfl ?_
    refine j_getR (u := 39) hc dX11_evening_11 (fgC_X11_56_0 _) (rC_0_6 _) ?_
    refine j_callVI (t := 39) (As := []) hc dX11_evening_14 kw_993 mX7_isOver (kC_39 _) clX7 rfl (by omega) (Nat.le_of_ble_eq_true rfl) (Nat.le_of_ble_eq_true rfl) ⟨Nat.le_refl _, Nat.le_refl _⟩ hf (fun v I' L' h => qX7_isOver x.2.1 n d I L v I' L' h) (fun v1 I1 L1 hf => ?_)
    refine j_if_ne (tgt := 33) hc dX11_evening_17 rfl hf (fun hf => ?_) (fun hf => ?_)
    · refine j_iconst (v := (-1 : Int32)) hc dX11_evening_33 ci_m1 ?_
      exact j_ireturn hc dX11_evening_34 rfl rfl hf
    · refine j_aload_n hc dX11_evening_20 rfl ?_
      refine j_getR (u := 39) hc dX11_evening_21 (fgC_X11_56_0 _) (rC_0_6 _) ?_
      refine j_getI hc dX11_evening_24 (fgC_X11_215_39 _) ?_
      refine j_sipush (v := (9999 : Int32)) hc dX11_evening_27 cs_9999 ?_
      refine j_icmp_lt (tgt := 35) hc dX11_evening_30 rfl hf (fun hf => ?_) (fun hf => ?_)
      · refine j_aload_n hc dX11_evening_35 rfl ?_
        refine j_getR (u := 45) hc dX11_evening_36 (fgC_X11_70_0 _) (rC_0_8 _) ?_
        refine j_aload_n hc dX11_evening_39 rfl ?_
        refine j_getR (u := 39) hc dX11_evening_40 (fgC_X11_56_0 _) (rC_0_6 _) ?_
        refine j_aload_n hc dX11_evening_43 rfl ?_
        refine j_getR (u := 42) hc dX11_evening_44 (fgC_X11_63_0 _) (rC_0_7 _) ?_
        refine j_callVV (t := 45) (As := [.ref 39, .ref 42]) hc dX11_evening_47 kw_920 mX6_keepAct (kC_45 _) clX6 rfl (by omega) (Nat.le_of_ble_eq_true rfl) (Nat.le_of_ble_eq_true rfl) ⟨Nat.le_refl _, Nat.le_refl _⟩ hf (fun I' L' h => qX6_keepAct_road_logbook x.2.1 n d I1 L1 I' L' h) (fun I2 L2 hf => ?_)
        refine j_iconst (v := (0 : Int32)) hc dX11_evening_50 ci_0 ?_
        refine j_istore_n hc dX11_evening_51 (Nat.le_of_ble_eq_true rfl) hf (fun v3 hf => ?_)
        exact j_sub (tX11_evening_b52 n d hc n _ _ _ hf) (And.intro rfl (And.intro rfl (trivial)))
      · refine j_iconst (v := (-1 : Int32)) hc dX11_evening_33 ci_m1 ?_
        exact j_ireturn hc dX11_evening_34 rfl rfl hf

set_option maxRecDepth 100000 in
theorem qX11_evening (l : Launch) {al : Bool} (n d : Nat) (I : am_I) (L : am_L) (r : Int32) (I' : am_I) (L' : am_L) (hf : fX11_evening n d I L = some (r, I', L')) : am_C l yX11_evening cX11_evening 2 (some .int) (d + 8) [.ref 0] (KC al) (RC al) I L (some (.int r)) I' L' := by
  exact am_intro (plainFor_of_name plX11) (fun _ _ => trivial) (Nat.le_of_ble_eq_true rfl) (fun x hl hc => by subst hl; exact j_sub (tX11_evening n d hc  _ _ hf) (And.intro rfl (trivial)))
set_option maxRecDepth 100000 in
def fX11_draw (n d : Nat) (a1 : Int32) (I : am_I) (L : am_L) : Option (Int32 × am_I × am_L) :=
  am_lt (am_uL L 0 14 (((L 0 14) * (6364136223846793005 : Int64)) + (1442695040888963407 : Int64))) (fun L1 => if (0 : Int32) < a1 then
    ((if a1.toInt64 = 0 then none else some ((((L1 0 14).toUInt64 >>> ((33 : Int32).toInt64.toUInt64 &&& Int64.toUInt64 63)).toInt64 - ((L1 0 14).toUInt64 >>> ((33 : Int32).toInt64.toUInt64 &&& Int64.toUInt64 63)).toInt64 / a1.toInt64 * a1.toInt64).toInt32, I, L1)))
    else
    (some ((0 : Int32), I, L1)))

set_option maxRecDepth 100000 in
set_option maxHeartbeats 4000000 in
theorem tX11_draw {x : am_X} {al : Bool} (n d : Nat) (hc : am_ok x cX11_draw yX11_draw 2 (some .int) (d + 1) 0 0) {r : Int32} {I' : am_I} {L' : am_L} (a1 : Int32) (I : am_I) (L : am_L) (hf : fX11_draw n d a1 I L = some (r, I', L')) : am_J x (fun S => S = (some (.int r), (KC al), (RC al), I', L')) 0 [some (.ref 0), some (.int a1)] [] (KC al) (RC al) I L 0 0 := by
  unfold fX11_draw at hf
  refine j_aload_n hc dX11_draw_0 rfl ?_
  refine j_aload_n hc dX11_draw_1 rfl ?_
  refine j_getL hc dX11_draw_2 (fgC_X11_105_0 _) ?_
  refine j_ldc2 (v := (6364136223846793005 : Int64)) hc dX11_draw_5 kw_1016 ?_
  refine j_lmul hc dX11_draw_8 ?_
  refine j_ldc2 (v := (1442695040888963407 : Int64)) hc dX11_draw_9 kw_1017 ?_
  refine j_ladd hc dX11_draw_12 ?_
  refine j_putL hc dX11_draw_13 (fpC_X11_105_0 _) rfl rfl hf (fun L1 hf => ?_)
  refine j_iload_n hc dX11_draw_16 rfl ?_
  refine j_if_gt (tgt := 24) hc dX11_draw_17 rfl hf (fun hf => ?_) (fun hf => ?_)
  · refine j_aload_n hc dX11_draw_24 rfl ?_
    refine j_getL hc dX11_draw_25 (fgC_X11_105_0 _) ?_
    refine j_bipush (v := (33 : Int32)) hc dX11_draw_28 cb_33 ?_
    refine j_lushr hc dX11_draw_30 ?_
    refine j_iload_n hc dX11_draw_31 rfl ?_
    refine j_i2l hc dX11_draw_32 ?_
    refine j_lrem hc dX11_draw_33 hf (fun hf => ?_)
    refine j_l2i hc dX11_draw_34 ?_
    exact j_ireturn hc dX11_draw_35 rfl rfl hf
  · refine j_iconst (v := (0 : Int32)) hc dX11_draw_20 ci_0 ?_
    refine j_goto (tgt := 35) hc dX11_draw_21 rfl ?_
    exact j_ireturn hc dX11_draw_35 rfl rfl hf

set_option maxRecDepth 100000 in
theorem qX11_draw (l : Launch) {al : Bool} (n d : Nat) (a1 : Int32) (I : am_I) (L : am_L) (r : Int32) (I' : am_I) (L' : am_L) (hf : fX11_draw n d a1 I L = some (r, I', L')) : am_C l yX11_draw cX11_draw 2 (some .int) (d + 1) [.ref 0, .int a1] (KC al) (RC al) I L (some (.int r)) I' L' := by
  exact am_intro (plainFor_of_name plX11) (fun _ _ => trivial) (Nat.le_of_ble_eq_true rfl) (fun x hl hc => by subst hl; exact j_sub (tX11_draw n d hc _ _ _ hf) (And.intro rfl (And.intro rfl (trivial))))
set_option maxRecDepth 100000 in
def fX7_lowestToPress_b2w (n d : Nat) (k2 : Int32 → Int32 → am_I → am_L → Option (Int32 × am_I × am_L)) (a1 : Int32) (a2 : Int32) (I : am_I) (L : am_L) : Option (Int32 × am_I × am_L) :=
  if (I 3 0) ≤ a2 then
    (some ((-1 : Int32), I, L))
    else
    (am_b3 (fX7_canPress n d a1 a2 I L) (fun v1 I1 L1 => if v1 = 0 then
      (am_lt (a2 + (1 : Int32)) (fun v2 => k2 a1 v2 I1 L1))
      else
      (some (a2, I1, L1))))

set_option maxRecDepth 100000 in
set_option maxHeartbeats 4000000 in
theorem tX7_lowestToPress_b2w {x : am_X} {al : Bool} (n d : Nat) (hc : am_ok x cX7_lowestToPress yX7_lowestToPress 3 (some .int) (d + 3) 0 0) {r : Int32} {I' : am_I} {L' : am_L} (k2 : Int32 → Int32 → am_I → am_L → Option (Int32 × am_I × am_L)) (hk2 : ∀ (a1 : Int32) (a2 : Int32) (I : am_I) (L : am_L), k2 a1 a2 I L = some (r, I', L') → am_J x (fun S => S = (some (.int r), (KC al), (RC al), I', L')) 2 [some (.ref 39), some (.int a1), some (.int a2)] [] (KC al) (RC al) I L 0 0) (a1 : Int32) (a2 : Int32) (I : am_I) (L : am_L) (hf : fX7_lowestToPress_b2w n d k2 a1 a2 I L = some (r, I', L')) : am_J x (fun S => S = (some (.int r), (KC al), (RC al), I', L')) 2 [some (.ref 39), some (.int a1), some (.int a2)] [] (KC al) (RC al) I L 0 0 := by
  unfold fX7_lowestToPress_b2w at hf
  refine j_iload_n hc dX7_lowestToPress_2 rfl ?_
  refine j_aload_n hc dX7_lowestToPress_3 rfl ?_
  refine j_getR (u := 3) hc dX7_lowestToPress_4 (fgC_X7_30_39 _) (rC_39_0 _) ?_
  refine j_getI hc dX7_lowestToPress_7 (fgC_X7_38_3 _) ?_
  refine j_icmp_ge (tgt := 30) hc dX7_lowestToPress_10 rfl hf (fun hf => ?_) (fun hf => ?_)
  · refine j_iconst (v := (-1 : Int32)) hc dX7_lowestToPress_30 ci_m1 ?_
    exact j_ireturn hc dX7_lowestToPress_31 rfl rfl hf
  · refine j_aload_n hc dX7_lowestToPress_13 rfl ?_
    refine j_iload_n hc dX7_lowestToPress_14 rfl ?_
    refine j_iload_n hc dX7_lowestToPress_15 rfl ?_
    refine j_callVI (t := 39) (As := [.int a1, .int a2]) hc dX7_lowestToPress_16 kw_1022 mX7_canPress (kC_39 _) clX7 rfl (by omega) (Nat.le_of_ble_eq_true rfl) (Nat.le_of_ble_eq_true rfl) ⟨Nat.le_refl _, Nat.le_refl _⟩ hf (fun v I' L' h => qX7_canPress x.2.1 n d a1 a2 I L v I' L' h) (fun v1 I1 L1 hf => ?_)
    refine j_if_eq (tgt := 24) hc dX7_lowestToPress_19 rfl hf (fun hf => ?_) (fun hf => ?_)
    · refine j_iinc (w := (1 : Int32)) hc dX7_lowestToPress_24 rfl ci_1 (Nat.le_of_ble_eq_true rfl) hf (fun v2 hf => ?_)
      refine j_goto (tgt := 2) hc dX7_lowestToPress_27 rfl ?_
      exact j_sub (hk2 _ _ _ _ hf) (And.intro rfl (And.intro rfl (And.intro rfl (trivial))))
    · refine j_iload_n hc dX7_lowestToPress_22 rfl ?_
      exact j_ireturn hc dX7_lowestToPress_23 rfl rfl hf

def fX7_lowestToPress_b2 (n d : Nat) : Nat → Int32 → Int32 → am_I → am_L → Option (Int32 × am_I × am_L)
  | 0 => fun _ _ _ _ => none
  | m + 1 => fX7_lowestToPress_b2w n d  (fX7_lowestToPress_b2 n d m)

set_option maxRecDepth 100000 in
theorem tX7_lowestToPress_b2 {x : am_X} {al : Bool} (n d : Nat) (hc : am_ok x cX7_lowestToPress yX7_lowestToPress 3 (some .int) (d + 3) 0 0) {r : Int32} {I' : am_I} {L' : am_L} (m : Nat) : ∀ (a1 : Int32) (a2 : Int32) (I : am_I) (L : am_L) (hf : fX7_lowestToPress_b2 n d m a1 a2 I L = some (r, I', L')), am_J x (fun S => S = (some (.int r), (KC al), (RC al), I', L')) 2 [some (.ref 39), some (.int a1), some (.int a2)] [] (KC al) (RC al) I L 0 0 := by
  induction m with
  | zero => intro a1 a2 I L hf; exact (Option.some_ne_none _ hf.symm).elim
  | succ m ih => intro a1 a2 I L hf; exact tX7_lowestToPress_b2w n d hc (fX7_lowestToPress_b2 n d m) ih a1 a2 I L hf

set_option maxRecDepth 100000 in
def fX7_lowestToPress (n d : Nat) (a1 : Int32) (I : am_I) (L : am_L) : Option (Int32 × am_I × am_L) :=
  am_lt (0 : Int32) (fun v1 => fX7_lowestToPress_b2 n d n a1 v1 I L)

set_option maxRecDepth 100000 in
set_option maxHeartbeats 4000000 in
theorem tX7_lowestToPress {x : am_X} {al : Bool} (n d : Nat) (hc : am_ok x cX7_lowestToPress yX7_lowestToPress 3 (some .int) (d + 3) 0 0) {r : Int32} {I' : am_I} {L' : am_L} (a1 : Int32) (I : am_I) (L : am_L) (hf : fX7_lowestToPress n d a1 I L = some (r, I', L')) : am_J x (fun S => S = (some (.int r), (KC al), (RC al), I', L')) 0 [some (.ref 39), some (.int a1), none] [] (KC al) (RC al) I L 0 0 := by
  unfold fX7_lowestToPress at hf
  refine j_iconst (v := (0 : Int32)) hc dX7_lowestToPress_0 ci_0 ?_
  refine j_istore_n hc dX7_lowestToPress_1 (Nat.le_of_ble_eq_true rfl) hf (fun v1 hf => ?_)
  exact j_sub (tX7_lowestToPress_b2 n d hc n _ _ _ _ hf) (And.intro rfl (And.intro rfl (And.intro rfl (trivial))))

set_option maxRecDepth 100000 in
theorem qX7_lowestToPress (l : Launch) {al : Bool} (n d : Nat) (a1 : Int32) (I : am_I) (L : am_L) (r : Int32) (I' : am_I) (L' : am_L) (hf : fX7_lowestToPress n d a1 I L = some (r, I', L')) : am_C l yX7_lowestToPress cX7_lowestToPress 3 (some .int) (d + 3) [.ref 39, .int a1] (KC al) (RC al) I L (some (.int r)) I' L' := by
  exact am_intro (plainFor_of_name plX7) (fun _ _ => trivial) (Nat.le_of_ble_eq_true rfl) (fun x hl hc => by subst hl; exact j_sub (tX7_lowestToPress n d hc _ _ _ hf) (And.intro rfl (And.intro rfl (trivial))))
set_option maxRecDepth 100000 in
def fX11_marchOneMan_b83 (n d : Nat) (s0 : Int32) (a1 : Int32) (I : am_I) (L : am_L) : Option (am_I × am_L) :=
  am_lt s0 (fun v1 => if v1 = (-1 : Int32) then
    (some (I, L))
    else
    (am_b2 (fX11_doPress n d a1 v1 I L) (fun I2 L2 => some (I2, L2))))

set_option maxRecDepth 100000 in
set_option maxHeartbeats 4000000 in
theorem tX11_marchOneMan_b83 {x : am_X} {al : Bool} (n d : Nat) (hc : am_ok x cX11_marchOneMan yX11_marchOneMan 4 none (d + 7) 0 0) {I' : am_I} {L' : am_L} (s0 : Int32) (a1 : Int32) (I : am_I) (L : am_L) (hf : fX11_marchOneMan_b83 n d s0 a1 I L = some (I', L')) : am_J x (fun S => S = (none, (KC al), (RC al), I', L')) 83 [some (.ref 0), some (.int a1), none, none] [.int s0] (KC al) (RC al) I L 0 0 := by
  unfold fX11_marchOneMan_b83 at hf
  refine j_istore_n hc dX11_marchOneMan_83 (Nat.le_of_ble_eq_true rfl) hf (fun v1 hf => ?_)
  refine j_iload_n hc dX11_marchOneMan_84 rfl ?_
  refine j_iconst (v := (-1 : Int32)) hc dX11_marchOneMan_85 ci_m1 ?_
  refine j_icmp_eq (tgt := 95) hc dX11_marchOneMan_86 rfl hf (fun hf => ?_) (fun hf => ?_)
  · exact j_return hc dX11_marchOneMan_95 rfl rfl hf
  · refine j_aload_n hc dX11_marchOneMan_89 rfl ?_
    refine j_iload_n hc dX11_marchOneMan_90 rfl ?_
    refine j_iload_n hc dX11_marchOneMan_91 rfl ?_
    refine j_callVV (t := 0) (As := [.int a1, .int v1]) hc dX11_marchOneMan_92 kw_985 mX11_doPress (kC_0 _) clX11 rfl (by omega) (Nat.le_of_ble_eq_true rfl) (Nat.le_of_ble_eq_true rfl) ⟨Nat.le_refl _, Nat.le_refl _⟩ hf (fun I' L' h => qX11_doPress x.2.1 n d a1 v1 I L I' L' h) (fun I2 L2 hf => ?_)
    exact j_return hc dX11_marchOneMan_95 rfl rfl hf

set_option maxRecDepth 100000 in
def fX11_marchOneMan_b66 (n d : Nat) (a1 : Int32) (a2 : Int32) (I : am_I) (L : am_L) : Option (am_I × am_L) :=
  if a2 = (2 : Int32) then
    (am_b3 (fX7_lowestToPress n d a1 I L) (fun v1 I1 L1 => fX11_marchOneMan_b83 n d v1 a1 I1 L1))
    else
    (fX11_marchOneMan_b83 n d (-1 : Int32) a1 I L)

set_option maxRecDepth 100000 in
set_option maxHeartbeats 4000000 in
theorem tX11_marchOneMan_b66 {x : am_X} {al : Bool} (n d : Nat) (hc : am_ok x cX11_marchOneMan yX11_marchOneMan 4 none (d + 7) 0 0) {I' : am_I} {L' : am_L} (a1 : Int32) (a2 : Int32) (I : am_I) (L : am_L) (hf : fX11_marchOneMan_b66 n d a1 a2 I L = some (I', L')) : am_J x (fun S => S = (none, (KC al), (RC al), I', L')) 66 [some (.ref 0), some (.int a1), some (.int a2), none] [] (KC al) (RC al) I L 0 0 := by
  unfold fX11_marchOneMan_b66 at hf
  refine j_iload_n hc dX11_marchOneMan_66 rfl ?_
  refine j_iconst (v := (2 : Int32)) hc dX11_marchOneMan_67 ci_2 ?_
  refine j_icmp_ne (tgt := 82) hc dX11_marchOneMan_68 rfl hf (fun hf => ?_) (fun hf => ?_)
  · refine j_iconst (v := (-1 : Int32)) hc dX11_marchOneMan_82 ci_m1 ?_
    exact j_sub (tX11_marchOneMan_b83 n d hc _ _ _ _ hf) (And.intro rfl (And.intro rfl (trivial)))
  · refine j_aload_n hc dX11_marchOneMan_71 rfl ?_
    refine j_getR (u := 39) hc dX11_marchOneMan_72 (fgC_X11_56_0 _) (rC_0_6 _) ?_
    refine j_iload_n hc dX11_marchOneMan_75 rfl ?_
    refine j_callVI (t := 39) (As := [.int a1]) hc dX11_marchOneMan_76 kw_1018 mX7_lowestToPress (kC_39 _) clX7 rfl (by omega) (Nat.le_of_ble_eq_true rfl) (Nat.le_of_ble_eq_true rfl) ⟨Nat.le_refl _, Nat.le_refl _⟩ hf (fun v I' L' h => qX7_lowestToPress x.2.1 n d a1 I L v I' L' h) (fun v1 I1 L1 hf => ?_)
    refine j_goto (tgt := 83) hc dX11_marchOneMan_79 rfl ?_
    exact j_sub (tX11_marchOneMan_b83 n d hc _ _ _ _ hf) (And.intro rfl (And.intro rfl (trivial)))

set_option maxRecDepth 100000 in
def fX11_marchOneMan_b45 (n d : Nat) (a1 : Int32) (a2 : Int32) (I : am_I) (L : am_L) : Option (am_I × am_L) :=
  if a2 = (1 : Int32) then
    (am_b3 (fX7_hasRest n d a1 I L) (fun v1 I1 L1 => if v1 = 0 then
      (fX11_marchOneMan_b66 n d a1 a2 I1 L1)
      else
      (am_b2 (fX11_doStay n d a1 I1 L1) (fun I2 L2 => fX11_marchOneMan_b66 n d a1 a2 I2 L2))))
    else
    (fX11_marchOneMan_b66 n d a1 a2 I L)

set_option maxRecDepth 100000 in
set_option maxHeartbeats 4000000 in
theorem tX11_marchOneMan_b45 {x : am_X} {al : Bool} (n d : Nat) (hc : am_ok x cX11_marchOneMan yX11_marchOneMan 4 none (d + 7) 0 0) {I' : am_I} {L' : am_L} (a1 : Int32) (a2 : Int32) (I : am_I) (L : am_L) (hf : fX11_marchOneMan_b45 n d a1 a2 I L = some (I', L')) : am_J x (fun S => S = (none, (KC al), (RC al), I', L')) 45 [some (.ref 0), some (.int a1), some (.int a2), none] [] (KC al) (RC al) I L 0 0 := by
  unfold fX11_marchOneMan_b45 at hf
  refine j_iload_n hc dX11_marchOneMan_45 rfl ?_
  refine j_iconst (v := (1 : Int32)) hc dX11_marchOneMan_46 ci_1 ?_
  refine j_icmp_ne (tgt := 66) hc dX11_marchOneMan_47 rfl hf (fun hf => ?_) (fun hf => ?_)
  · exact j_sub (tX11_marchOneMan_b66 n d hc _ _ _ _ hf) (And.intro rfl (And.intro rfl (And.intro rfl (trivial))))
  · refine j_aload_n hc dX11_marchOneMan_50 rfl ?_
    refine j_getR (u := 39) hc dX11_marchOneMan_51 (fgC_X11_56_0 _) (rC_0_6 _) ?_
    refine j_iload_n hc dX11_marchOneMan_54 rfl ?_
    refine j_callVI (t := 39) (As := [.int a1]) hc dX11_marchOneMan_55 kw_962 mX7_hasRest (kC_39 _) clX7 rfl (by omega) (Nat.le_of_ble_eq_true rfl) (Nat.le_of_ble_eq_true rfl) ⟨Nat.le_refl _, Nat.le_refl _⟩ hf (fun v I' L' h => qX7_hasRest x.2.1 n d a1 I L v I' L' h) (fun v1 I1 L1 hf => ?_)
    refine j_if_eq (tgt := 66) hc dX11_marchOneMan_58 rfl hf (fun hf => ?_) (fun hf => ?_)
    · exact j_sub (tX11_marchOneMan_b66 n d hc _ _ _ _ hf) (And.intro rfl (And.intro rfl (And.intro rfl (trivial))))
    · refine j_aload_n hc dX11_marchOneMan_61 rfl ?_
      refine j_iload_n hc dX11_marchOneMan_62 rfl ?_
      refine j_callVV (t := 0) (As := [.int a1]) hc dX11_marchOneMan_63 kw_966 mX11_doStay (kC_0 _) clX11 rfl (by omega) (Nat.le_of_ble_eq_true rfl) (Nat.le_of_ble_eq_true rfl) ⟨Nat.le_refl _, Nat.le_refl _⟩ hf (fun I' L' h => qX11_doStay x.2.1 n d a1 I1 L1 I' L' h) (fun I2 L2 hf => ?_)
      exact j_sub (tX11_marchOneMan_b66 n d hc _ _ _ _ hf) (And.intro rfl (And.intro rfl (And.intro rfl (trivial))))

set_option maxRecDepth 100000 in
def fX11_marchOneMan (n d : Nat) (a1 : Int32) (I : am_I) (L : am_L) : Option (am_I × am_L) :=
  am_b3 (fX11_draw n d (10 : Int32) I L) (fun v1 I1 L1 => am_ck a1 8 (am_lt (I1 9 (a1).toNatClampNeg) (fun v2 => if v2 ≤ v1 then
    (am_b3 (fX11_draw n d (3 : Int32) I1 L1) (fun v3 I3 L3 => am_lt v3 (fun v4 => if v4 = 0 then
      (am_b3 (fX7_canGo n d a1 I3 L3) (fun v5 I5 L5 => if v5 = 0 then
        (fX11_marchOneMan_b45 n d a1 v4 I5 L5)
        else
        (am_b2 (fX11_doGo n d a1 I5 L5) (fun I6 L6 => fX11_marchOneMan_b45 n d a1 v4 I6 L6))))
      else
      (fX11_marchOneMan_b45 n d a1 v4 I3 L3))))
    else
    (some (I1, L1)))))

set_option maxRecDepth 100000 in
set_option maxHeartbeats 4000000 in
theorem tX11_marchOneMan {x : am_X} {al : Bool} (n d : Nat) (hc : am_ok x cX11_marchOneMan yX11_marchOneMan 4 none (d + 7) 0 0) {I' : am_I} {L' : am_L} (a1 : Int32) (I : am_I) (L : am_L) (hf : fX11_marchOneMan n d a1 I L = some (I', L')) : am_J x (fun S => S = (none, (KC al), (RC al), I', L')) 0 [some (.ref 0), some (.int a1), none, none] [] (KC al) (RC al) I L 0 0 := by
  unfold fX11_marchOneMan at hf
  refine j_aload_n hc dX11_marchOneMan_0 rfl ?_
  refine j_bipush (v := (10 : Int32)) hc dX11_marchOneMan_1 cb_10 ?_
  refine j_callVI (t := 0) (As := [.int (10 : Int32)]) hc dX11_marchOneMan_3 kw_1012 mX11_draw (kC_0 _) clX11 rfl (by omega) (Nat.le_of_ble_eq_true rfl) (Nat.le_of_ble_eq_true rfl) ⟨Nat.le_refl _, Nat.le_refl _⟩ hf (fun v I' L' h => qX11_draw x.2.1 n d (10 : Int32) I L v I' L' h) (fun v1 I1 L1 hf => ?_)
  refine j_aload_n hc dX11_marchOneMan_6 rfl ?_
  refine j_getR (u := 3) hc dX11_marchOneMan_7 (fgC_X11_19_0 _) (rC_0_1 _) ?_
  refine j_getR (u := 9) hc dX11_marchOneMan_10 (fgC_X11_180_3 _) (rC_3_10 _) ?_
  refine j_iload_n hc dX11_marchOneMan_13 rfl ?_
  refine j_iaload (n := 8) hc dX11_marchOneMan_14 (kC_9 _) hf (fun v2 hf => ?_)
  refine j_icmp_ge (tgt := 19) hc dX11_marchOneMan_15 rfl hf (fun hf => ?_) (fun hf => ?_)
  · refine j_aload_n hc dX11_marchOneMan_19 rfl ?_
    refine j_iconst (v := (3 : Int32)) hc dX11_marchOneMan_20 ci_3 ?_
    refine j_callVI (t := 0) (As := [.int (3 : Int32)]) hc dX11_marchOneMan_21 kw_1012 mX11_draw (kC_0 _) clX11 rfl (by omega) (Nat.le_of_ble_eq_true rfl) (Nat.le_of_ble_eq_true rfl) ⟨Nat.le_refl _, Nat.le_refl _⟩ hf (fun v I' L' h => qX11_draw x.2.1 n d (3 : Int32) I1 L1 v I' L' h) (fun v3 I3 L3 hf => ?_)
    refine j_istore_n hc dX11_marchOneMan_24 (Nat.le_of_ble_eq_true rfl) hf (fun v4 hf => ?_)
    refine j_iload_n hc dX11_marchOneMan_25 rfl ?_
    refine j_if_ne (tgt := 45) hc dX11_marchOneMan_26 rfl hf (fun hf => ?_) (fun hf => ?_)
    · exact j_sub (tX11_marchOneMan_b45 n d hc _ _ _ _ hf) (And.intro rfl (And.intro rfl (And.intro rfl (trivial))))
    · refine j_aload_n hc dX11_marchOneMan_29 rfl ?_
      refine j_getR (u := 39) hc dX11_marchOneMan_30 (fgC_X11_56_0 _) (rC_0_6 _) ?_
      refine j_iload_n hc dX11_marchOneMan_33 rfl ?_
      refine j_callVI (t := 39) (As := [.int a1]) hc dX11_marchOneMan_34 kw_916 mX7_canGo (kC_39 _) clX7 rfl (by omega) (Nat.le_of_ble_eq_true rfl) (Nat.le_of_ble_eq_true rfl) ⟨Nat.le_refl _, Nat.le_refl _⟩ hf (fun v I' L' h => qX7_canGo x.2.1 n d a1 I3 L3 v I' L' h) (fun v5 I5 L5 hf => ?_)
      refine j_if_eq (tgt := 45) hc dX11_marchOneMan_37 rfl hf (fun hf => ?_) (fun hf => ?_)
      · exact j_sub (tX11_marchOneMan_b45 n d hc _ _ _ _ hf) (And.intro rfl (And.intro rfl (And.intro rfl (trivial))))
      · refine j_aload_n hc dX11_marchOneMan_40 rfl ?_
        refine j_iload_n hc dX11_marchOneMan_41 rfl ?_
        refine j_callVV (t := 0) (As := [.int a1]) hc dX11_marchOneMan_42 kw_940 mX11_doGo (kC_0 _) clX11 rfl (by omega) (Nat.le_of_ble_eq_true rfl) (Nat.le_of_ble_eq_true rfl) ⟨Nat.le_refl _, Nat.le_refl _⟩ hf (fun I' L' h => qX11_doGo x.2.1 n d a1 I5 L5 I' L' h) (fun I6 L6 hf => ?_)
        exact j_sub (tX11_marchOneMan_b45 n d hc _ _ _ _ hf) (And.intro rfl (And.intro rfl (And.intro rfl (trivial))))
  · exact j_return hc dX11_marchOneMan_18 rfl rfl hf

set_option maxRecDepth 100000 in
theorem qX11_marchOneMan (l : Launch) {al : Bool} (n d : Nat) (a1 : Int32) (I : am_I) (L : am_L) (I' : am_I) (L' : am_L) (hf : fX11_marchOneMan n d a1 I L = some (I', L')) : am_C l yX11_marchOneMan cX11_marchOneMan 4 none (d + 7) [.ref 0, .int a1] (KC al) (RC al) I L none I' L' := by
  exact am_intro (plainFor_of_name plX11) (fun _ _ => trivial) (Nat.le_of_ble_eq_true rfl) (fun x hl hc => by subst hl; exact j_sub (tX11_marchOneMan n d hc _ _ _ hf) (And.intro rfl (And.intro rfl (trivial))))
set_option maxRecDepth 100000 in
def fX11_march_b160 (n d : Nat) (I : am_I) (L : am_L) : Option (Int32 × am_I × am_L) :=
  some ((I 39 5), I, L)

set_option maxRecDepth 100000 in
set_option maxHeartbeats 4000000 in
theorem tX11_march_b160 {x : am_X} {al : Bool} (n d : Nat) (hc : am_ok x cX11_march yX11_march 6 (some .int) (d + 8) 0 0) {r : Int32} {I' : am_I} {L' : am_L} (I : am_I) (L : am_L) (hf : fX11_march_b160 n d I L = some (r, I', L')) : am_J x (fun S => S = (some (.int r), (KC al), (RC al), I', L')) 160 [some (.ref 0), none, none, none, none, none] [] (KC al) (RC al) I L 0 0 := by
  unfold fX11_march_b160 at hf
  refine j_aload_n hc dX11_march_160 rfl ?_
  refine j_getR (u := 39) hc dX11_march_161 (fgC_X11_56_0 _) (rC_0_6 _) ?_
  refine j_getI hc dX11_march_164 (fgC_X11_215_39 _) ?_
  exact j_ireturn hc dX11_march_167 rfl rfl hf

set_option maxRecDepth 100000 in
def fX11_march_b150 (n d : Nat) (k58 : Int32 → Int32 → am_I → am_L → Option (Int32 × am_I × am_L)) (a1 : Int32) (a4 : Int32) (I : am_I) (L : am_L) : Option (Int32 × am_I × am_L) :=
  am_b2 (fX11_endDay n d I L) (fun I1 L1 => am_lt (a4 + (1 : Int32)) (fun v2 => k58 a1 v2 I1 L1))

set_option maxRecDepth 100000 in
set_option maxHeartbeats 4000000 in
theorem tX11_march_b150 {x : am_X} {al : Bool} (n d : Nat) (hc : am_ok x cX11_march yX11_march 6 (some .int) (d + 8) 0 0) {r : Int32} {I' : am_I} {L' : am_L} (k58 : Int32 → Int32 → am_I → am_L → Option (Int32 × am_I × am_L)) (hk58 : ∀ (a1 : Int32) (a4 : Int32) (I : am_I) (L : am_L), k58 a1 a4 I L = some (r, I', L') → am_J x (fun S => S = (some (.int r), (KC al), (RC al), I', L')) 58 [some (.ref 0), some (.int a1), none, none, some (.int a4), none] [] (KC al) (RC al) I L 0 0) (a1 : Int32) (a4 : Int32) (I : am_I) (L : am_L) (hf : fX11_march_b150 n d k58 a1 a4 I L = some (r, I', L')) : am_J x (fun S => S = (some (.int r), (KC al), (RC al), I', L')) 150 [some (.ref 0), some (.int a1), none, none, some (.int a4), none] [] (KC al) (RC al) I L 0 0 := by
  unfold fX11_march_b150 at hf
  refine j_aload_n hc dX11_march_150 rfl ?_
  refine j_callVV (t := 0) (As := []) hc dX11_march_151 kw_996 mX11_endDay (kC_0 _) clX11 rfl (by omega) (Nat.le_of_ble_eq_true rfl) (Nat.le_of_ble_eq_true rfl) ⟨Nat.le_refl _, Nat.le_refl _⟩ hf (fun I' L' h => qX11_endDay x.2.1 n d I L I' L' h) (fun I1 L1 hf => ?_)
  refine j_iinc (w := (1 : Int32)) hc dX11_march_154 rfl ci_1 (Nat.le_of_ble_eq_true rfl) hf (fun v2 hf => ?_)
  refine j_goto (tgt := 58) hc dX11_march_157 rfl ?_
  exact j_sub (hk58 _ _ _ _ hf) (And.intro rfl (And.intro rfl (And.intro rfl (trivial))))

set_option maxRecDepth 100000 in
def fX11_march_b144 (n d : Nat) (k58 : Int32 → Int32 → am_I → am_L → Option (Int32 × am_I × am_L)) (k92 : Int32 → Int32 → Int32 → am_I → am_L → Option (Int32 × am_I × am_L)) (a1 : Int32) (a4 : Int32) (a5 : Int32) (I : am_I) (L : am_L) : Option (Int32 × am_I × am_L) :=
  am_lt (a5 + (1 : Int32)) (fun v1 => k92 a1 a4 v1 I L)

set_option maxRecDepth 100000 in
set_option maxHeartbeats 4000000 in
theorem tX11_march_b144 {x : am_X} {al : Bool} (n d : Nat) (hc : am_ok x cX11_march yX11_march 6 (some .int) (d + 8) 0 0) {r : Int32} {I' : am_I} {L' : am_L} (k58 : Int32 → Int32 → am_I → am_L → Option (Int32 × am_I × am_L)) (k92 : Int32 → Int32 → Int32 → am_I → am_L → Option (Int32 × am_I × am_L)) (hk58 : ∀ (a1 : Int32) (a4 : Int32) (I : am_I) (L : am_L), k58 a1 a4 I L = some (r, I', L') → am_J x (fun S => S = (some (.int r), (KC al), (RC al), I', L')) 58 [some (.ref 0), some (.int a1), none, none, some (.int a4), none] [] (KC al) (RC al) I L 0 0) (hk92 : ∀ (a1 : Int32) (a4 : Int32) (a5 : Int32) (I : am_I) (L : am_L), k92 a1 a4 a5 I L = some (r, I', L') → am_J x (fun S => S = (some (.int r), (KC al), (RC al), I', L')) 92 [some (.ref 0), some (.int a1), none, none, some (.int a4), some (.int a5)] [] (KC al) (RC al) I L 0 0) (a1 : Int32) (a4 : Int32) (a5 : Int32) (I : am_I) (L : am_L) (hf : fX11_march_b144 n d k58 k92 a1 a4 a5 I L = some (r, I', L')) : am_J x (fun S => S = (some (.int r), (KC al), (RC al), I', L')) 144 [some (.ref 0), some (.int a1), none, none, some (.int a4), some (.int a5)] [] (KC al) (RC al) I L 0 0 := by
  unfold fX11_march_b144 at hf
  refine j_iinc (w := (1 : Int32)) hc dX11_march_144 rfl ci_1 (Nat.le_of_ble_eq_true rfl) hf (fun v1 hf => ?_)
  refine j_goto (tgt := 92) hc dX11_march_147 rfl ?_
  exact j_sub (hk92 _ _ _ _ _ hf) (And.intro rfl (And.intro rfl (And.intro rfl (And.intro rfl (trivial)))))

set_option maxRecDepth 100000 in
def fX11_march_b92w (n d : Nat) (k58 : Int32 → Int32 → am_I → am_L → Option (Int32 × am_I × am_L)) (k92 : Int32 → Int32 → Int32 → am_I → am_L → Option (Int32 × am_I × am_L)) (a1 : Int32) (a4 : Int32) (a5 : Int32) (I : am_I) (L : am_L) : Option (Int32 × am_I × am_L) :=
  if (I 3 0) ≤ a5 then
    (fX11_march_b150 n d k58 a1 a4 I L)
    else
    (am_b3 (fX7_isOver n d I L) (fun v1 I1 L1 => if v1 = 0 then
      (am_b3 (fX7_isHome n d a5 I1 L1) (fun v2 I2 L2 => if v2 = 0 then
        (am_b3 (fX7_didDeed n d a5 I2 L2) (fun v3 I3 L3 => if v3 = 0 then
          (am_b2 (fX11_marchOneMan n d a5 I3 L3) (fun I4 L4 => fX11_march_b144 n d k58 k92 a1 a4 a5 I4 L4))
          else
          (fX11_march_b144 n d k58 k92 a1 a4 a5 I3 L3)))
        else
        (fX11_march_b144 n d k58 k92 a1 a4 a5 I2 L2)))
      else
      (fX11_march_b150 n d k58 a1 a4 I1 L1)))

set_option maxRecDepth 100000 in
set_option maxHeartbeats 4000000 in
theorem tX11_march_b92w {x : am_X} {al : Bool} (n d : Nat) (hc : am_ok x cX11_march yX11_march 6 (some .int) (d + 8) 0 0) {r : Int32} {I' : am_I} {L' : am_L} (k58 : Int32 → Int32 → am_I → am_L → Option (Int32 × am_I × am_L)) (k92 : Int32 → Int32 → Int32 → am_I → am_L → Option (Int32 × am_I × am_L)) (hk58 : ∀ (a1 : Int32) (a4 : Int32) (I : am_I) (L : am_L), k58 a1 a4 I L = some (r, I', L') → am_J x (fun S => S = (some (.int r), (KC al), (RC al), I', L')) 58 [some (.ref 0), some (.int a1), none, none, some (.int a4), none] [] (KC al) (RC al) I L 0 0) (hk92 : ∀ (a1 : Int32) (a4 : Int32) (a5 : Int32) (I : am_I) (L : am_L), k92 a1 a4 a5 I L = some (r, I', L') → am_J x (fun S => S = (some (.int r), (KC al), (RC al), I', L')) 92 [some (.ref 0), some (.int a1), none, none, some (.int a4), some (.int a5)] [] (KC al) (RC al) I L 0 0) (a1 : Int32) (a4 : Int32) (a5 : Int32) (I : am_I) (L : am_L) (hf : fX11_march_b92w n d k58 k92 a1 a4 a5 I L = some (r, I', L')) : am_J x (fun S => S = (some (.int r), (KC al), (RC al), I', L')) 92 [some (.ref 0), some (.int a1), none, none, some (.int a4), some (.int a5)] [] (KC al) (RC al) I L 0 0 := by
  unfold fX11_march_b92w at hf
  refine j_iload hc dX11_march_92 rfl ?_
  refine j_aload_n hc dX11_march_94 rfl ?_
  refine j_getR (u := 3) hc dX11_march_95 (fgC_X11_19_0 _) (rC_0_1 _) ?_
  refine j_getI hc dX11_march_98 (fgC_X11_151_3 _) ?_
  refine j_icmp_ge (tgt := 150) hc dX11_march_101 rfl hf (fun hf => ?_) (fun hf => ?_)
  · exact j_sub (tX11_march_b150 n d hc k58 hk58 _ _ _ _ hf) (And.intro rfl (And.intro rfl (And.intro rfl (trivial))))
  · refine j_aload_n hc dX11_march_104 rfl ?_
    refine j_getR (u := 39) hc dX11_march_105 (fgC_X11_56_0 _) (rC_0_6 _) ?_
    refine j_callVI (t := 39) (As := []) hc dX11_march_108 kw_993 mX7_isOver (kC_39 _) clX7 rfl (by omega) (Nat.le_of_ble_eq_true rfl) (Nat.le_of_ble_eq_true rfl) ⟨Nat.le_refl _, Nat.le_refl _⟩ hf (fun v I' L' h => qX7_isOver x.2.1 n d I L v I' L' h) (fun v1 I1 L1 hf => ?_)
    refine j_if_ne (tgt := 150) hc dX11_march_111 rfl hf (fun hf => ?_) (fun hf => ?_)
    · exact j_sub (tX11_march_b150 n d hc k58 hk58 _ _ _ _ hf) (And.intro rfl (And.intro rfl (And.intro rfl (trivial))))
    · refine j_aload_n hc dX11_march_114 rfl ?_
      refine j_getR (u := 39) hc dX11_march_115 (fgC_X11_56_0 _) (rC_0_6 _) ?_
      refine j_iload hc dX11_march_118 rfl ?_
      refine j_callVI (t := 39) (As := [.int a5]) hc dX11_march_120 kw_994 mX7_isHome (kC_39 _) clX7 rfl (by omega) (Nat.le_of_ble_eq_true rfl) (Nat.le_of_ble_eq_true rfl) ⟨Nat.le_refl _, Nat.le_refl _⟩ hf (fun v I' L' h => qX7_isHome x.2.1 n d a5 I1 L1 v I' L' h) (fun v2 I2 L2 hf => ?_)
      refine j_if_ne (tgt := 144) hc dX11_march_123 rfl hf (fun hf => ?_) (fun hf => ?_)
      · exact j_sub (tX11_march_b144 n d hc k58 k92 hk58 hk92 _ _ _ _ _ hf) (And.intro rfl (And.intro rfl (And.intro rfl (And.intro rfl (trivial)))))
      · refine j_aload_n hc dX11_march_126 rfl ?_
        refine j_getR (u := 39) hc dX11_march_127 (fgC_X11_56_0 _) (rC_0_6 _) ?_
        refine j_iload hc dX11_march_130 rfl ?_
        refine j_callVI (t := 39) (As := [.int a5]) hc dX11_march_132 kw_995 mX7_didDeed (kC_39 _) clX7 rfl (by omega) (Nat.le_of_ble_eq_true rfl) (Nat.le_of_ble_eq_true rfl) ⟨Nat.le_refl _, Nat.le_refl _⟩ hf (fun v I' L' h => qX7_didDeed x.2.1 n d a5 I2 L2 v I' L' h) (fun v3 I3 L3 hf => ?_)
        refine j_if_ne (tgt := 144) hc dX11_march_135 rfl hf (fun hf => ?_) (fun hf => ?_)
        · exact j_sub (tX11_march_b144 n d hc k58 k92 hk58 hk92 _ _ _ _ _ hf) (And.intro rfl (And.intro rfl (And.intro rfl (And.intro rfl (trivial)))))
        · refine j_aload_n hc dX11_march_138 rfl ?_
          refine j_iload hc dX11_march_139 rfl ?_
          refine j_callVV (t := 0) (As := [.int a5]) hc dX11_march_141 kw_1008 mX11_marchOneMan (kC_0 _) clX11 rfl (by omega) (Nat.le_of_ble_eq_true rfl) (Nat.le_of_ble_eq_true rfl) ⟨Nat.le_refl _, Nat.le_refl _⟩ hf (fun I' L' h => qX11_marchOneMan x.2.1 n d a5 I3 L3 I' L' h) (fun I4 L4 hf => ?_)
          exact j_sub (tX11_march_b144 n d hc k58 k92 hk58 hk92 _ _ _ _ _ hf) (And.intro rfl (And.intro rfl (And.intro rfl (And.intro rfl (trivial)))))

def fX11_march_b92 (n d : Nat) (k58 : Int32 → Int32 → am_I → am_L → Option (Int32 × am_I × am_L)) : Nat → Int32 → Int32 → Int32 → am_I → am_L → Option (Int32 × am_I × am_L)
  | 0 => fun _ _ _ _ _ => none
  | m + 1 => fX11_march_b92w n d  k58 (fX11_march_b92 n d k58 m)

set_option maxRecDepth 100000 in
theorem tX11_march_b92 {x : am_X} {al : Bool} (n d : Nat) (hc : am_ok x cX11_march yX11_march 6 (some .int) (d + 8) 0 0) {r : Int32} {I' : am_I} {L' : am_L} (k58 : Int32 → Int32 → am_I → am_L → Option (Int32 × am_I × am_L)) (hk58 : ∀ (a1 : Int32) (a4 : Int32) (I : am_I) (L : am_L), k58 a1 a4 I L = some (r, I', L') → am_J x (fun S => S = (some (.int r), (KC al), (RC al), I', L')) 58 [some (.ref 0), some (.int a1), none, none, some (.int a4), none] [] (KC al) (RC al) I L 0 0) (m : Nat) : ∀ (a1 : Int32) (a4 : Int32) (a5 : Int32) (I : am_I) (L : am_L) (hf : fX11_march_b92 n d k58 m a1 a4 a5 I L = some (r, I', L')), am_J x (fun S => S = (some (.int r), (KC al), (RC al), I', L')) 92 [some (.ref 0), some (.int a1), none, none, some (.int a4), some (.int a5)] [] (KC al) (RC al) I L 0 0 := by
  induction m with
  | zero => intro a1 a4 a5 I L hf; exact (Option.some_ne_none _ hf.symm).elim
  | succ m ih => intro a1 a4 a5 I L hf; exact tX11_march_b92w n d hc k58 (fX11_march_b92 n d k58 m) hk58 ih a1 a4 a5 I L hf

set_option maxRecDepth 100000 in
def fX11_march_b58w (n d : Nat) (k58 : Int32 → Int32 → am_I → am_L → Option (Int32 × am_I × am_L)) (a1 : Int32) (a4 : Int32) (I : am_I) (L : am_L) : Option (Int32 × am_I × am_L) :=
  if a1 ≤ a4 then
    (fX11_march_b160 n d I L)
    else
    (am_b3 (fX7_isOver n d I L) (fun v1 I1 L1 => if v1 = 0 then
      (am_b2 (fX6_keepAct_road_logbook n d I1 L1) (fun I2 L2 => am_lt (0 : Int32) (fun v3 => fX11_march_b92 n d k58 n a1 a4 v3 I2 L2)))
      else
      (fX11_march_b160 n d I1 L1)))

set_option maxRecDepth 100000 in
set_option maxHeartbeats 4000000 in
theorem tX11_march_b58w {x : am_X} {al : Bool} (n d : Nat) (hc : am_ok x cX11_march yX11_march 6 (some .int) (d + 8) 0 0) {r : Int32} {I' : am_I} {L' : am_L} (k58 : Int32 → Int32 → am_I → am_L → Option (Int32 × am_I × am_L)) (hk58 : ∀ (a1 : Int32) (a4 : Int32) (I : am_I) (L : am_L), k58 a1 a4 I L = some (r, I', L') → am_J x (fun S => S = (some (.int r), (KC al), (RC al), I', L')) 58 [some (.ref 0), some (.int a1), none, none, some (.int a4), none] [] (KC al) (RC al) I L 0 0) (a1 : Int32) (a4 : Int32) (I : am_I) (L : am_L) (hf : fX11_march_b58w n d k58 a1 a4 I L = some (r, I', L')) : am_J x (fun S => S = (some (.int r), (KC al), (RC al), I', L')) 58 [some (.ref 0), some (.int a1), none, none, some (.int a4), none] [] (KC al) (RC al) I L 0 0 := by
  unfold fX11_march_b58w at hf
  refine j_iload hc dX11_march_58 rfl ?_
  refine j_iload_n hc dX11_march_60 rfl ?_
  refine j_icmp_ge (tgt := 160) hc dX11_march_61 rfl hf (fun hf => ?_) (fun hf => ?_)
  · exact j_sub (tX11_march_b160 n d hc _ _ hf) (And.intro rfl (trivial))
  · refine j_aload_n hc dX11_march_64 rfl ?_
    refine j_getR (u := 39) hc dX11_march_65 (fgC_X11_56_0 _) (rC_0_6 _) ?_
    refine j_callVI (t := 39) (As := []) hc dX11_march_68 kw_993 mX7_isOver (kC_39 _) clX7 rfl (by omega) (Nat.le_of_ble_eq_true rfl) (Nat.le_of_ble_eq_true rfl) ⟨Nat.le_refl _, Nat.le_refl _⟩ hf (fun v I' L' h => qX7_isOver x.2.1 n d I L v I' L' h) (fun v1 I1 L1 hf => ?_)
    refine j_if_ne (tgt := 160) hc dX11_march_71 rfl hf (fun hf => ?_) (fun hf => ?_)
    · exact j_sub (tX11_march_b160 n d hc _ _ hf) (And.intro rfl (trivial))
    · refine j_aload_n hc dX11_march_74 rfl ?_
      refine j_getR (u := 45) hc dX11_march_75 (fgC_X11_70_0 _) (rC_0_8 _) ?_
      refine j_aload_n hc dX11_march_78 rfl ?_
      refine j_getR (u := 39) hc dX11_march_79 (fgC_X11_56_0 _) (rC_0_6 _) ?_
      refine j_aload_n hc dX11_march_82 rfl ?_
      refine j_getR (u := 42) hc dX11_march_83 (fgC_X11_63_0 _) (rC_0_7 _) ?_
      refine j_callVV (t := 45) (As := [.ref 39, .ref 42]) hc dX11_march_86 kw_920 mX6_keepAct (kC_45 _) clX6 rfl (by omega) (Nat.le_of_ble_eq_true rfl) (Nat.le_of_ble_eq_true rfl) ⟨Nat.le_refl _, Nat.le_refl _⟩ hf (fun I' L' h => qX6_keepAct_road_logbook x.2.1 n d I1 L1 I' L' h) (fun I2 L2 hf => ?_)
      refine j_iconst (v := (0 : Int32)) hc dX11_march_89 ci_0 ?_
      refine j_istore hc dX11_march_90 (Nat.le_of_ble_eq_true rfl) hf (fun v3 hf => ?_)
      exact j_sub (tX11_march_b92 n d hc k58 hk58 n _ _ _ _ _ hf) (And.intro rfl (And.intro rfl (And.intro rfl (And.intro rfl (trivial)))))

def fX11_march_b58 (n d : Nat) : Nat → Int32 → Int32 → am_I → am_L → Option (Int32 × am_I × am_L)
  | 0 => fun _ _ _ _ => none
  | m + 1 => fX11_march_b58w n d  (fX11_march_b58 n d m)

set_option maxRecDepth 100000 in
theorem tX11_march_b58 {x : am_X} {al : Bool} (n d : Nat) (hc : am_ok x cX11_march yX11_march 6 (some .int) (d + 8) 0 0) {r : Int32} {I' : am_I} {L' : am_L} (m : Nat) : ∀ (a1 : Int32) (a4 : Int32) (I : am_I) (L : am_L) (hf : fX11_march_b58 n d m a1 a4 I L = some (r, I', L')), am_J x (fun S => S = (some (.int r), (KC al), (RC al), I', L')) 58 [some (.ref 0), some (.int a1), none, none, some (.int a4), none] [] (KC al) (RC al) I L 0 0 := by
  induction m with
  | zero => intro a1 a4 I L hf; exact (Option.some_ne_none _ hf.symm).elim
  | succ m ih => intro a1 a4 I L hf; exact tX11_march_b58w n d hc (fX11_march_b58 n d m) ih a1 a4 I L hf

set_option maxRecDepth 100000 in
def fX11_march (n d : Nat) (a1 : Int32) (a2 : Int64) (I : am_I) (L : am_L) : Option (Int32 × am_I × am_L) :=
  if (I 3 0) = 0 then
    (some ((-1 : Int32), I, L))
    else
    (if a1 < (1 : Int32) then
      (some ((-1 : Int32), I, L))
      else
      (if a1 ≤ (60 : Int32) then
        (am_b3 (fX7_isOver n d I L) (fun v1 I1 L1 => if v1 = 0 then
          (if ((I1 39 5) + a1) ≤ (9999 : Int32) then
            (am_lt (am_uL L1 0 14 a2) (fun L2 => am_lt (0 : Int32) (fun v3 => fX11_march_b58 n d n a1 v3 I1 L2)))
            else
            (some ((-1 : Int32), I1, L1)))
          else
          (some ((-1 : Int32), I1, L1))))
        else
        (some ((-1 : Int32), I, L))))

set_option maxRecDepth 100000 in
set_option maxHeartbeats 4000000 in
theorem tX11_march {x : am_X} {al : Bool} (n d : Nat) (hc : am_ok x cX11_march yX11_march 6 (some .int) (d + 8) 0 0) {r : Int32} {I' : am_I} {L' : am_L} (a1 : Int32) (a2 : Int64) (I : am_I) (L : am_L) (hf : fX11_march n d a1 a2 I L = some (r, I', L')) : am_J x (fun S => S = (some (.int r), (KC al), (RC al), I', L')) 0 [some (.ref 0), some (.int a1), some (.long a2), none, none, none] [] (KC al) (RC al) I L 0 0 := by
  unfold fX11_march at hf
  refine j_aload_n hc dX11_march_0 rfl ?_
  refine j_getR (u := 3) hc dX11_march_1 (fgC_X11_19_0 _) (rC_0_1 _) ?_
  refine j_getI hc dX11_march_4 (fgC_X11_151_3 _) ?_
  refine j_if_eq (tgt := 21) hc dX11_march_7 rfl hf (fun hf => ?_) (fun hf => ?_)
  · refine j_iconst (v := (-1 : Int32)) hc dX11_march_21 ci_m1 ?_
    exact j_ireturn hc dX11_march_22 rfl rfl hf
  · refine j_iload_n hc dX11_march_10 rfl ?_
    refine j_iconst (v := (1 : Int32)) hc dX11_march_11 ci_1 ?_
    refine j_icmp_lt (tgt := 21) hc dX11_march_12 rfl hf (fun hf => ?_) (fun hf => ?_)
    · refine j_iconst (v := (-1 : Int32)) hc dX11_march_21 ci_m1 ?_
      exact j_ireturn hc dX11_march_22 rfl rfl hf
    · refine j_iload_n hc dX11_march_15 rfl ?_
      refine j_bipush (v := (60 : Int32)) hc dX11_march_16 cb_60 ?_
      refine j_icmp_le (tgt := 23) hc dX11_march_18 rfl hf (fun hf => ?_) (fun hf => ?_)
      · refine j_aload_n hc dX11_march_23 rfl ?_
        refine j_getR (u := 39) hc dX11_march_24 (fgC_X11_56_0 _) (rC_0_6 _) ?_
        refine j_callVI (t := 39) (As := []) hc dX11_march_27 kw_993 mX7_isOver (kC_39 _) clX7 rfl (by omega) (Nat.le_of_ble_eq_true rfl) (Nat.le_of_ble_eq_true rfl) ⟨Nat.le_refl _, Nat.le_refl _⟩ hf (fun v I' L' h => qX7_isOver x.2.1 n d I L v I' L' h) (fun v1 I1 L1 hf => ?_)
        refine j_if_ne (tgt := 48) hc dX11_march_30 rfl hf (fun hf => ?_) (fun hf => ?_)
        · refine j_iconst (v := (-1 : Int32)) hc dX11_march_48 ci_m1 ?_
          exact j_ireturn hc dX11_march_49 rfl rfl hf
        · refine j_aload_n hc dX11_march_33 rfl ?_
          refine j_getR (u := 39) hc dX11_march_34 (fgC_X11_56_0 _) (rC_0_6 _) ?_
          refine j_getI hc dX11_march_37 (fgC_X11_215_39 _) ?_
          refine j_iload_n hc dX11_march_40 rfl ?_
          refine j_iadd hc dX11_march_41 ?_
          refine j_sipush (v := (9999 : Int32)) hc dX11_march_42 cs_9999 ?_
          refine j_icmp_le (tgt := 50) hc dX11_march_45 rfl hf (fun hf => ?_) (fun hf => ?_)
          · refine j_aload_n hc dX11_march_50 rfl ?_
            refine j_lload_n hc dX11_march_51 rfl ?_
            refine j_putL hc dX11_march_52 (fpC_X11_105_0 _) rfl rfl hf (fun L2 hf => ?_)
            refine j_iconst (v := (0 : Int32)) hc dX11_march_55 ci_0 ?_
            refine j_istore hc dX11_march_56 (Nat.le_of_ble_eq_true rfl) hf (fun v3 hf => ?_)
            exact j_sub (tX11_march_b58 n d hc n _ _ _ _ hf) (And.intro rfl (And.intro rfl (And.intro rfl (trivial))))
          · refine j_iconst (v := (-1 : Int32)) hc dX11_march_48 ci_m1 ?_
            exact j_ireturn hc dX11_march_49 rfl rfl hf
      · refine j_iconst (v := (-1 : Int32)) hc dX11_march_21 ci_m1 ?_
        exact j_ireturn hc dX11_march_22 rfl rfl hf

set_option maxRecDepth 100000 in
theorem qX11_march (l : Launch) {al : Bool} (n d : Nat) (a1 : Int32) (a2 : Int64) (I : am_I) (L : am_L) (r : Int32) (I' : am_I) (L' : am_L) (hf : fX11_march n d a1 a2 I L = some (r, I', L')) : am_C l yX11_march cX11_march 6 (some .int) (d + 8) [.ref 0, .int a1, .long a2] (KC al) (RC al) I L (some (.int r)) I' L' := by
  exact am_intro (plainFor_of_name plX11) (fun _ _ => trivial) (Nat.le_of_ble_eq_true rfl) (fun x hl hc => by subst hl; exact j_sub (tX11_march n d hc _ _ _ _ hf) (And.intro rfl (And.intro rfl (And.intro rfl (trivial)))))
set_option maxRecDepth 100000 in
def fX7_unpack_b3w (n d : Nat) (k3 : Int64 → Int64 → Int32 → Int32 → Int32 → am_I → am_L → Option (am_I × am_L)) (a1 : Int64) (a3 : Int64) (a5 : Int32) (a6 : Int32) (a7 : Int32) (I : am_I) (L : am_L) : Option (am_I × am_L) :=
  if (I 3 0) ≤ a7 then
    (am_lt (am_up I 39 4 a5) (fun I1 => am_lt (am_up I1 39 5 a6) (fun I2 => am_b2 (fX7_lookAtAll n d I2 L) (fun I3 L3 => some (I3, L3)))))
    else
    (am_ck a7 8 (am_lt (am_up I 40 (a7).toNatClampNeg ((a1 >>> ((a7 * (5 : Int32)).toInt64 &&& 63)).toInt32 &&& (31 : Int32))) (fun I4 => am_ck a7 8 (am_lt (am_up I4 41 (a7).toNatClampNeg ((a3 >>> ((a7 * (4 : Int32)).toInt64 &&& 63)).toInt32 &&& (15 : Int32))) (fun I5 => am_lt (a7 + (1 : Int32)) (fun v6 => k3 a1 a3 a5 a6 v6 I5 L))))))

set_option maxRecDepth 100000 in
set_option maxHeartbeats 4000000 in
theorem tX7_unpack_b3w {x : am_X} {al : Bool} (n d : Nat) (hc : am_ok x cX7_unpack yX7_unpack 8 none (d + 6) 0 0) {I' : am_I} {L' : am_L} (k3 : Int64 → Int64 → Int32 → Int32 → Int32 → am_I → am_L → Option (am_I × am_L)) (hk3 : ∀ (a1 : Int64) (a3 : Int64) (a5 : Int32) (a6 : Int32) (a7 : Int32) (I : am_I) (L : am_L), k3 a1 a3 a5 a6 a7 I L = some (I', L') → am_J x (fun S => S = (none, (KC al), (RC al), I', L')) 3 [some (.ref 39), some (.long a1), none, some (.long a3), none, some (.int a5), some (.int a6), some (.int a7)] [] (KC al) (RC al) I L 0 0) (a1 : Int64) (a3 : Int64) (a5 : Int32) (a6 : Int32) (a7 : Int32) (I : am_I) (L : am_L) (hf : fX7_unpack_b3w n d k3 a1 a3 a5 a6 a7 I L = some (I', L')) : am_J x (fun S => S = (none, (KC al), (RC al), I', L')) 3 [some (.ref 39), some (.long a1), none, some (.long a3), none, some (.int a5), some (.int a6), some (.int a7)] [] (KC al) (RC al) I L 0 0 := by
  unfold fX7_unpack_b3w at hf
  refine j_iload hc dX7_unpack_3 rfl ?_
  refine j_aload_n hc dX7_unpack_5 rfl ?_
  refine j_getR (u := 3) hc dX7_unpack_6 (fgC_X7_30_39 _) (rC_39_0 _) ?_
  refine j_getI hc dX7_unpack_9 (fgC_X7_38_3 _) ?_
  refine j_icmp_ge (tgt := 55) hc dX7_unpack_12 rfl hf (fun hf => ?_) (fun hf => ?_)
  · refine j_aload_n hc dX7_unpack_55 rfl ?_
    refine j_iload hc dX7_unpack_56 rfl ?_
    refine j_putI hc dX7_unpack_58 (fpC_X7_20_39 _) rfl rfl hf (fun I1 hf => ?_)
    refine j_aload_n hc dX7_unpack_61 rfl ?_
    refine j_iload hc dX7_unpack_62 rfl ?_
    refine j_putI hc dX7_unpack_64 (fpC_X7_24_39 _) rfl rfl hf (fun I2 hf => ?_)
    refine j_aload_n hc dX7_unpack_67 rfl ?_
    refine j_callVV (t := 39) (As := []) hc dX7_unpack_68 kw_823 mX7_lookAtAll (kC_39 _) clX7 rfl (by omega) (Nat.le_of_ble_eq_true rfl) (Nat.le_of_ble_eq_true rfl) ⟨Nat.le_refl _, Nat.le_refl _⟩ hf (fun I' L' h => qX7_lookAtAll x.2.1 n d I2 L I' L' h) (fun I3 L3 hf => ?_)
    exact j_return hc dX7_unpack_71 rfl rfl hf
  · refine j_aload_n hc dX7_unpack_15 rfl ?_
    refine j_getR (u := 40) hc dX7_unpack_16 (fgC_X7_11_39 _) (rC_39_2 _) ?_
    refine j_iload hc dX7_unpack_19 rfl ?_
    refine j_lload_n hc dX7_unpack_21 rfl ?_
    refine j_iload hc dX7_unpack_22 rfl ?_
    refine j_iconst (v := (5 : Int32)) hc dX7_unpack_24 ci_5 ?_
    refine j_imul hc dX7_unpack_25 ?_
    refine j_lshr hc dX7_unpack_26 ?_
    refine j_l2i hc dX7_unpack_27 ?_
    refine j_bipush (v := (31 : Int32)) hc dX7_unpack_28 cb_31 ?_
    refine j_iand hc dX7_unpack_30 ?_
    refine j_iastore (n := 8) hc dX7_unpack_31 (kC_40 _) hf (fun I4 hf => ?_)
    refine j_aload_n hc dX7_unpack_32 rfl ?_
    refine j_getR (u := 41) hc dX7_unpack_33 (fgC_X7_17_39 _) (rC_39_3 _) ?_
    refine j_iload hc dX7_unpack_36 rfl ?_
    refine j_lload_n hc dX7_unpack_38 rfl ?_
    refine j_iload hc dX7_unpack_39 rfl ?_
    refine j_iconst (v := (4 : Int32)) hc dX7_unpack_41 ci_4 ?_
    refine j_imul hc dX7_unpack_42 ?_
    refine j_lshr hc dX7_unpack_43 ?_
    refine j_l2i hc dX7_unpack_44 ?_
    refine j_bipush (v := (15 : Int32)) hc dX7_unpack_45 cb_15 ?_
    refine j_iand hc dX7_unpack_47 ?_
    refine j_iastore (n := 8) hc dX7_unpack_48 (kC_41 _) hf (fun I5 hf => ?_)
    refine j_iinc (w := (1 : Int32)) hc dX7_unpack_49 rfl ci_1 (Nat.le_of_ble_eq_true rfl) hf (fun v6 hf => ?_)
    refine j_goto (tgt := 3) hc dX7_unpack_52 rfl ?_
    exact j_sub (hk3 _ _ _ _ _ _ _ hf) (And.intro rfl (And.intro rfl (And.intro rfl (And.intro rfl (And.intro rfl (And.intro rfl (trivial)))))))

def fX7_unpack_b3 (n d : Nat) : Nat → Int64 → Int64 → Int32 → Int32 → Int32 → am_I → am_L → Option (am_I × am_L)
  | 0 => fun _ _ _ _ _ _ _ => none
  | m + 1 => fX7_unpack_b3w n d  (fX7_unpack_b3 n d m)

set_option maxRecDepth 100000 in
theorem tX7_unpack_b3 {x : am_X} {al : Bool} (n d : Nat) (hc : am_ok x cX7_unpack yX7_unpack 8 none (d + 6) 0 0) {I' : am_I} {L' : am_L} (m : Nat) : ∀ (a1 : Int64) (a3 : Int64) (a5 : Int32) (a6 : Int32) (a7 : Int32) (I : am_I) (L : am_L) (hf : fX7_unpack_b3 n d m a1 a3 a5 a6 a7 I L = some (I', L')), am_J x (fun S => S = (none, (KC al), (RC al), I', L')) 3 [some (.ref 39), some (.long a1), none, some (.long a3), none, some (.int a5), some (.int a6), some (.int a7)] [] (KC al) (RC al) I L 0 0 := by
  induction m with
  | zero => intro a1 a3 a5 a6 a7 I L hf; exact (Option.some_ne_none _ hf.symm).elim
  | succ m ih => intro a1 a3 a5 a6 a7 I L hf; exact tX7_unpack_b3w n d hc (fX7_unpack_b3 n d m) ih a1 a3 a5 a6 a7 I L hf

set_option maxRecDepth 100000 in
def fX7_unpack (n d : Nat) (a1 : Int64) (a3 : Int64) (a5 : Int32) (a6 : Int32) (I : am_I) (L : am_L) : Option (am_I × am_L) :=
  am_lt (0 : Int32) (fun v1 => fX7_unpack_b3 n d n a1 a3 a5 a6 v1 I L)

set_option maxRecDepth 100000 in
set_option maxHeartbeats 4000000 in
theorem tX7_unpack {x : am_X} {al : Bool} (n d : Nat) (hc : am_ok x cX7_unpack yX7_unpack 8 none (d + 6) 0 0) {I' : am_I} {L' : am_L} (a1 : Int64) (a3 : Int64) (a5 : Int32) (a6 : Int32) (I : am_I) (L : am_L) (hf : fX7_unpack n d a1 a3 a5 a6 I L = some (I', L')) : am_J x (fun S => S = (none, (KC al), (RC al), I', L')) 0 [some (.ref 39), some (.long a1), none, some (.long a3), none, some (.int a5), some (.int a6), none] [] (KC al) (RC al) I L 0 0 := by
  unfold fX7_unpack at hf
  refine j_iconst (v := (0 : Int32)) hc dX7_unpack_0 ci_0 ?_
  refine j_istore hc dX7_unpack_1 (Nat.le_of_ble_eq_true rfl) hf (fun v1 hf => ?_)
  exact j_sub (tX7_unpack_b3 n d hc n _ _ _ _ _ _ _ hf) (And.intro rfl (And.intro rfl (And.intro rfl (And.intro rfl (And.intro rfl (And.intro rfl (trivial)))))))

set_option maxRecDepth 100000 in
theorem qX7_unpack (l : Launch) {al : Bool} (n d : Nat) (a1 : Int64) (a3 : Int64) (a5 : Int32) (a6 : Int32) (I : am_I) (L : am_L) (I' : am_I) (L' : am_L) (hf : fX7_unpack n d a1 a3 a5 a6 I L = some (I', L')) : am_C l yX7_unpack cX7_unpack 8 none (d + 6) [.ref 39, .long a1, .long a3, .int a5, .int a6] (KC al) (RC al) I L none I' L' := by
  exact am_intro (plainFor_of_name plX7) (fun _ _ => trivial) (Nat.le_of_ble_eq_true rfl) (fun x hl hc => by subst hl; exact j_sub (tX7_unpack n d hc _ _ _ _ _ _ hf) (And.intro rfl (And.intro rfl (And.intro rfl (And.intro rfl (And.intro rfl (trivial)))))))
set_option maxRecDepth 100000 in
def fX6_undoAct_road_logbook (n d : Nat) (I : am_I) (L : am_L) : Option (am_I × am_L) :=
  am_b3 (fJ9_floorMod_7cf53 n d ((I 45 5) - (1 : Int32)) (40 : Int32) I L) (fun v1 I1 L1 => am_lt (am_up I1 45 5 v1) (fun I2 => am_ck (I2 45 5) 41 (am_lt (L1 46 ((I2 45 5)).toNatClampNeg) (fun v3 => am_ck (I2 45 5) 41 (am_lt (L1 47 ((I2 45 5)).toNatClampNeg) (fun v4 => am_ck (I2 45 5) 41 (am_lt (I2 48 ((I2 45 5)).toNatClampNeg) (fun v5 => am_ck (I2 45 5) 41 (am_lt (I2 49 ((I2 45 5)).toNatClampNeg) (fun v6 => am_b2 (fX7_unpack n d v3 v4 v5 v6 I2 L1) (fun I7 L7 => am_ck (I7 45 5) 40 (am_lt (I7 50 ((I7 45 5)).toNatClampNeg) (fun v8 => am_lt (am_up I7 42 3 v8) (fun I9 => am_lt (am_up I9 45 6 ((I9 45 6) - (1 : Int32))) (fun I10 => some (I10, L7))))))))))))))))

set_option maxRecDepth 100000 in
set_option maxHeartbeats 4000000 in
theorem tX6_undoAct_road_logbook {x : am_X} {al : Bool} (n d : Nat) (hc : am_ok x cX6_undoAct yX6_undoAct 3 none (d + 7) 0 0) {I' : am_I} {L' : am_L} (I : am_I) (L : am_L) (hf : fX6_undoAct_road_logbook n d I L = some (I', L')) : am_J x (fun S => S = (none, (KC al), (RC al), I', L')) 0 [some (.ref 45), some (.ref 39), some (.ref 42)] [] (KC al) (RC al) I L 0 0 := by
  unfold fX6_undoAct_road_logbook at hf
  refine j_aload_n hc dX6_undoAct_0 rfl ?_
  refine j_aload_n hc dX6_undoAct_1 rfl ?_
  refine j_getI hc dX6_undoAct_2 (fgC_X6_26_45 _) ?_
  refine j_iconst (v := (1 : Int32)) hc dX6_undoAct_5 ci_1 ?_
  refine j_isub hc dX6_undoAct_6 ?_
  refine j_bipush (v := (40 : Int32)) hc dX6_undoAct_7 cb_40 ?_
  refine j_callSI (As := [.int ((I 45 5) - (1 : Int32)), .int (40 : Int32)]) hc dX6_undoAct_9 kw_924 mJ9_floorMod_7cf53  rfl (by omega) (Nat.le_of_ble_eq_true rfl) (Nat.le_of_ble_eq_true rfl) ⟨Nat.le_refl _, Nat.le_refl _⟩ hf (fun v I' L' h => qJ9_floorMod_7cf53 x.2.1 n d ((I 45 5) - (1 : Int32)) (40 : Int32) I L v I' L' h) (fun v1 I1 L1 hf => ?_)
  refine j_putI hc dX6_undoAct_12 (fpC_X6_26_45 _) rfl rfl hf (fun I2 hf => ?_)
  refine j_aload_n hc dX6_undoAct_15 rfl ?_
  refine j_aload_n hc dX6_undoAct_16 rfl ?_
  refine j_getR (u := 46) hc dX6_undoAct_17 (fgC_X6_9_45 _) (rC_45_0 _) ?_
  refine j_aload_n hc dX6_undoAct_20 rfl ?_
  refine j_getI hc dX6_undoAct_21 (fgC_X6_26_45 _) ?_
  refine j_laload (n := 41) hc dX6_undoAct_24 (kC_46 _) hf (fun v3 hf => ?_)
  refine j_aload_n hc dX6_undoAct_25 rfl ?_
  refine j_getR (u := 47) hc dX6_undoAct_26 (fgC_X6_13_45 _) (rC_45_1 _) ?_
  refine j_aload_n hc dX6_undoAct_29 rfl ?_
  refine j_getI hc dX6_undoAct_30 (fgC_X6_26_45 _) ?_
  refine j_laload (n := 41) hc dX6_undoAct_33 (kC_47 _) hf (fun v4 hf => ?_)
  refine j_aload_n hc dX6_undoAct_34 rfl ?_
  refine j_getR (u := 48) hc dX6_undoAct_35 (fgC_X6_16_45 _) (rC_45_2 _) ?_
  refine j_aload_n hc dX6_undoAct_38 rfl ?_
  refine j_getI hc dX6_undoAct_39 (fgC_X6_26_45 _) ?_
  refine j_iaload (n := 41) hc dX6_undoAct_42 (kC_48 _) hf (fun v5 hf => ?_)
  refine j_aload_n hc dX6_undoAct_43 rfl ?_
  refine j_getR (u := 49) hc dX6_undoAct_44 (fgC_X6_20_45 _) (rC_45_3 _) ?_
  refine j_aload_n hc dX6_undoAct_47 rfl ?_
  refine j_getI hc dX6_undoAct_48 (fgC_X6_26_45 _) ?_
  refine j_iaload (n := 41) hc dX6_undoAct_51 (kC_49 _) hf (fun v6 hf => ?_)
  refine j_callVV (t := 39) (As := [.long v3, .long v4, .int v5, .int v6]) hc dX6_undoAct_52 kw_1031 mX7_unpack (kC_39 _) clX7 rfl (by omega) (Nat.le_of_ble_eq_true rfl) (Nat.le_of_ble_eq_true rfl) ⟨Nat.le_refl _, Nat.le_refl _⟩ hf (fun I' L' h => qX7_unpack x.2.1 n d v3 v4 v5 v6 I2 L1 I' L' h) (fun I7 L7 hf => ?_)
  refine j_aload_n hc dX6_undoAct_55 rfl ?_
  refine j_aload_n hc dX6_undoAct_56 rfl ?_
  refine j_getR (u := 50) hc dX6_undoAct_57 (fgC_X6_23_45 _) (rC_45_4 _) ?_
  refine j_aload_n hc dX6_undoAct_60 rfl ?_
  refine j_getI hc dX6_undoAct_61 (fgC_X6_26_45 _) ?_
  refine j_iaload (n := 40) hc dX6_undoAct_64 (kC_50 _) hf (fun v8 hf => ?_)
  refine j_putI hc dX6_undoAct_65 (fpC_X6_47_42 _) rfl rfl hf (fun I9 hf => ?_)
  refine j_aload_n hc dX6_undoAct_68 rfl ?_
  refine j_dup hc dX6_undoAct_69 rfl ?_
  refine j_getI hc dX6_undoAct_70 (fgC_X6_30_45 _) ?_
  refine j_iconst (v := (1 : Int32)) hc dX6_undoAct_73 ci_1 ?_
  refine j_isub hc dX6_undoAct_74 ?_
  refine j_putI hc dX6_undoAct_75 (fpC_X6_30_45 _) rfl rfl hf (fun I10 hf => ?_)
  exact j_return hc dX6_undoAct_78 rfl rfl hf

set_option maxRecDepth 100000 in
theorem qX6_undoAct_road_logbook (l : Launch) {al : Bool} (n d : Nat) (I : am_I) (L : am_L) (I' : am_I) (L' : am_L) (hf : fX6_undoAct_road_logbook n d I L = some (I', L')) : am_C l yX6_undoAct cX6_undoAct 3 none (d + 7) [.ref 45, .ref 39, .ref 42] (KC al) (RC al) I L none I' L' := by
  exact am_intro (plainFor_of_name plX6) (fun _ _ => trivial) (Nat.le_of_ble_eq_true rfl) (fun x hl hc => by subst hl; exact j_sub (tX6_undoAct_road_logbook n d hc  _ _ hf) (And.intro rfl (And.intro rfl (And.intro rfl (trivial)))))
set_option maxRecDepth 100000 in
def fX11_undo (n d : Nat) (I : am_I) (L : am_L) : Option (Int32 × am_I × am_L) :=
  if (I 45 6) = 0 then
    (some ((-1 : Int32), I, L))
    else
    (am_b2 (fX6_undoAct_road_logbook n d I L) (fun I1 L1 => some ((I1 45 6), I1, L1)))

set_option maxRecDepth 100000 in
set_option maxHeartbeats 4000000 in
theorem tX11_undo {x : am_X} {al : Bool} (n d : Nat) (hc : am_ok x cX11_undo yX11_undo 1 (some .int) (d + 8) 0 0) {r : Int32} {I' : am_I} {L' : am_L} (I : am_I) (L : am_L) (hf : fX11_undo n d I L = some (r, I', L')) : am_J x (fun S => S = (some (.int r), (KC al), (RC al), I', L')) 0 [some (.ref 0)] [] (KC al) (RC al) I L 0 0 := by
  unfold fX11_undo at hf
  refine j_aload_n hc dX11_undo_0 rfl ?_
  refine j_getR (u := 45) hc dX11_undo_1 (fgC_X11_70_0 _) (rC_0_8 _) ?_
  refine j_getI hc dX11_undo_4 (fgC_X11_229_45 _) ?_
  refine j_if_ne (tgt := 12) hc dX11_undo_7 rfl hf (fun hf => ?_) (fun hf => ?_)
  · refine j_aload_n hc dX11_undo_12 rfl ?_
    refine j_getR (u := 45) hc dX11_undo_13 (fgC_X11_70_0 _) (rC_0_8 _) ?_
    refine j_aload_n hc dX11_undo_16 rfl ?_
    refine j_getR (u := 39) hc dX11_undo_17 (fgC_X11_56_0 _) (rC_0_6 _) ?_
    refine j_aload_n hc dX11_undo_20 rfl ?_
    refine j_getR (u := 42) hc dX11_undo_21 (fgC_X11_63_0 _) (rC_0_7 _) ?_
    refine j_callVV (t := 45) (As := [.ref 39, .ref 42]) hc dX11_undo_24 kw_1027 mX6_undoAct (kC_45 _) clX6 rfl (by omega) (Nat.le_of_ble_eq_true rfl) (Nat.le_of_ble_eq_true rfl) ⟨Nat.le_refl _, Nat.le_refl _⟩ hf (fun I' L' h => qX6_undoAct_road_logbook x.2.1 n d I L I' L' h) (fun I1 L1 hf => ?_)
    refine j_aload_n hc dX11_undo_27 rfl ?_
    refine j_getR (u := 45) hc dX11_undo_28 (fgC_X11_70_0 _) (rC_0_8 _) ?_
    refine j_getI hc dX11_undo_31 (fgC_X11_229_45 _) ?_
    exact j_ireturn hc dX11_undo_34 rfl rfl hf
  · refine j_iconst (v := (-1 : Int32)) hc dX11_undo_10 ci_m1 ?_
    exact j_ireturn hc dX11_undo_11 rfl rfl hf

set_option maxRecDepth 100000 in
theorem qX11_undo (l : Launch) {al : Bool} (n d : Nat) (I : am_I) (L : am_L) (r : Int32) (I' : am_I) (L' : am_L) (hf : fX11_undo n d I L = some (r, I', L')) : am_C l yX11_undo cX11_undo 1 (some .int) (d + 8) [.ref 0] (KC al) (RC al) I L (some (.int r)) I' L' := by
  exact am_intro (plainFor_of_name plX11) (fun _ _ => trivial) (Nat.le_of_ble_eq_true rfl) (fun x hl hc => by subst hl; exact j_sub (tX11_undo n d hc  _ _ hf) (And.intro rfl (trivial)))
set_option maxRecDepth 100000 in
def fX5_length (n d : Nat) (I : am_I) (L : am_L) : Option (Int32 × am_I × am_L) :=
  am_b3 (fJ9_min_7cf53 n d (I 42 3) (60 : Int32) I L) (fun v1 I1 L1 => some (v1, I1, L1))

set_option maxRecDepth 100000 in
set_option maxHeartbeats 4000000 in
theorem tX5_length {x : am_X} {al : Bool} (n d : Nat) (hc : am_ok x cX5_length yX5_length 1 (some .int) (d + 2) 0 0) {r : Int32} {I' : am_I} {L' : am_L} (I : am_I) (L : am_L) (hf : fX5_length n d I L = some (r, I', L')) : am_J x (fun S => S = (some (.int r), (KC al), (RC al), I', L')) 0 [some (.ref 42)] [] (KC al) (RC al) I L 0 0 := by
  unfold fX5_length at hf
  refine j_aload_n hc dX5_length_0 rfl ?_
  refine j_getI hc dX5_length_1 (fgC_X5_24_42 _) ?_
  refine j_bipush (v := (60 : Int32)) hc dX5_length_4 cb_60 ?_
  refine j_callSI (As := [.int (I 42 3), .int (60 : Int32)]) hc dX5_length_6 kw_889 mJ9_min_7cf53  rfl (by omega) (Nat.le_of_ble_eq_true rfl) (Nat.le_of_ble_eq_true rfl) ⟨Nat.le_refl _, Nat.le_refl _⟩ hf (fun v I' L' h => qJ9_min_7cf53 x.2.1 n d (I 42 3) (60 : Int32) I L v I' L' h) (fun v1 I1 L1 hf => ?_)
  exact j_ireturn hc dX5_length_9 rfl rfl hf

set_option maxRecDepth 100000 in
theorem qX5_length (l : Launch) {al : Bool} (n d : Nat) (I : am_I) (L : am_L) (r : Int32) (I' : am_I) (L' : am_L) (hf : fX5_length n d I L = some (r, I', L')) : am_C l yX5_length cX5_length 1 (some .int) (d + 2) [.ref 42] (KC al) (RC al) I L (some (.int r)) I' L' := by
  exact am_intro (plainFor_of_name plX5) (fun _ _ => trivial) (Nat.le_of_ble_eq_true rfl) (fun x hl hc => by subst hl; exact j_sub (tX5_length n d hc  _ _ hf) (And.intro rfl (trivial)))
set_option maxRecDepth 100000 in
def fX5_line (n d : Nat) (a1 : Int32) (I : am_I) (L : am_L) : Option (Int32 × am_I × am_L) :=
  am_b3 (fJ9_floorMod_7cf53 n d (((I 42 3) - (1 : Int32)) - a1) (420 : Int32) I L) (fun v1 I1 L1 => am_ck v1 420 (am_lt (I1 43 (v1).toNatClampNeg) (fun v2 => some (v2, I1, L1))))

set_option maxRecDepth 100000 in
set_option maxHeartbeats 4000000 in
theorem tX5_line {x : am_X} {al : Bool} (n d : Nat) (hc : am_ok x cX5_line yX5_line 2 (some .int) (d + 2) 0 0) {r : Int32} {I' : am_I} {L' : am_L} (a1 : Int32) (I : am_I) (L : am_L) (hf : fX5_line n d a1 I L = some (r, I', L')) : am_J x (fun S => S = (some (.int r), (KC al), (RC al), I', L')) 0 [some (.ref 42), some (.int a1)] [] (KC al) (RC al) I L 0 0 := by
  unfold fX5_line at hf
  refine j_aload_n hc dX5_line_0 rfl ?_
  refine j_getR (u := 43) hc dX5_line_1 (fgC_X5_13_42 _) (rC_42_0 _) ?_
  refine j_aload_n hc dX5_line_4 rfl ?_
  refine j_getI hc dX5_line_5 (fgC_X5_24_42 _) ?_
  refine j_iconst (v := (1 : Int32)) hc dX5_line_8 ci_1 ?_
  refine j_isub hc dX5_line_9 ?_
  refine j_iload_n hc dX5_line_10 rfl ?_
  refine j_isub hc dX5_line_11 ?_
  refine j_sipush (v := (420 : Int32)) hc dX5_line_12 cs_420 ?_
  refine j_callSI (As := [.int (((I 42 3) - (1 : Int32)) - a1), .int (420 : Int32)]) hc dX5_line_15 kw_957 mJ9_floorMod_7cf53  rfl (by omega) (Nat.le_of_ble_eq_true rfl) (Nat.le_of_ble_eq_true rfl) ⟨Nat.le_refl _, Nat.le_refl _⟩ hf (fun v I' L' h => qJ9_floorMod_7cf53 x.2.1 n d (((I 42 3) - (1 : Int32)) - a1) (420 : Int32) I L v I' L' h) (fun v1 I1 L1 hf => ?_)
  refine j_iaload (n := 420) hc dX5_line_18 (kC_43 _) hf (fun v2 hf => ?_)
  exact j_ireturn hc dX5_line_19 rfl rfl hf

set_option maxRecDepth 100000 in
theorem qX5_line (l : Launch) {al : Bool} (n d : Nat) (a1 : Int32) (I : am_I) (L : am_L) (r : Int32) (I' : am_I) (L' : am_L) (hf : fX5_line n d a1 I L = some (r, I', L')) : am_C l yX5_line cX5_line 2 (some .int) (d + 2) [.ref 42, .int a1] (KC al) (RC al) I L (some (.int r)) I' L' := by
  exact am_intro (plainFor_of_name plX5) (fun _ _ => trivial) (Nat.le_of_ble_eq_true rfl) (fun x hl hc => by subst hl; exact j_sub (tX5_line n d hc _ _ _ hf) (And.intro rfl (And.intro rfl (trivial))))
set_option maxRecDepth 100000 in
def fX5_whatOf (n d : Nat) (a0 : Int32) (I : am_I) (L : am_L) : Option (Int32 × am_I × am_L) :=
  (if (100 : Int32) = 0 then none else some ((a0 / (100 : Int32)), I, L))

set_option maxRecDepth 100000 in
set_option maxHeartbeats 4000000 in
theorem tX5_whatOf {x : am_X} {al : Bool} (n d : Nat) (hc : am_ok x cX5_whatOf yX5_whatOf 1 (some .int) (d + 1) 0 0) {r : Int32} {I' : am_I} {L' : am_L} (a0 : Int32) (I : am_I) (L : am_L) (hf : fX5_whatOf n d a0 I L = some (r, I', L')) : am_J x (fun S => S = (some (.int r), (KC al), (RC al), I', L')) 0 [some (.int a0)] [] (KC al) (RC al) I L 0 0 := by
  unfold fX5_whatOf at hf
  refine j_iload_n hc dX5_whatOf_0 rfl ?_
  refine j_bipush (v := (100 : Int32)) hc dX5_whatOf_1 cb_100 ?_
  refine j_idiv hc dX5_whatOf_3 hf (fun hf => ?_)
  exact j_ireturn hc dX5_whatOf_4 rfl rfl hf

set_option maxRecDepth 100000 in
theorem qX5_whatOf (l : Launch) {al : Bool} (n d : Nat) (a0 : Int32) (I : am_I) (L : am_L) (r : Int32) (I' : am_I) (L' : am_L) (hf : fX5_whatOf n d a0 I L = some (r, I', L')) : am_C l yX5_whatOf cX5_whatOf 1 (some .int) (d + 1) [.int a0] (KC al) (RC al) I L (some (.int r)) I' L' := by
  exact am_intro (plainFor_of_name plX5) (fun _ _ => trivial) (Nat.le_of_ble_eq_true rfl) (fun x hl hc => by subst hl; exact j_sub (tX5_whatOf n d hc _ _ _ hf) (And.intro rfl (trivial)))
