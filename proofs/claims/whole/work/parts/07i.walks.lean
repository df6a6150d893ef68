set_option maxRecDepth 100000 in
def fX2_comparisonOf (n d : Nat) (a0 : Int32) (I : am_I) (L : am_L) : Option (Int32 × am_I × am_L) :=
  if a0 = (61 : Int32) then
    (some ((-15 : Int32), I, L))
    else
    (if a0 = (60 : Int32) then
      (some ((-16 : Int32), I, L))
      else
      (if a0 = (62 : Int32) then
        (some ((-17 : Int32), I, L))
        else
        (some ((0 : Int32), I, L))))

set_option maxRecDepth 100000 in
set_option maxHeartbeats 4000000 in
theorem tX2_comparisonOf {x : am_X} {al : Bool} (n d : Nat) (hc : am_ok x cX2_comparisonOf yX2_comparisonOf 1 (some .int) (d + 1) 0 0) {r : Int32} {I' : am_I} {L' : am_L} (a0 : Int32) (I : am_I) (L : am_L) (hf : fX2_comparisonOf n d a0 I L = some (r, I', L')) : am_J x (fun S => S = (some (.int r), (KC al), (RC al), I', L')) 0 [some (.int a0)] [] (KC al) (RC al) I L 0 0 := by
  unfold fX2_comparisonOf at hf
  refine j_iload_n hc dX2_comparisonOf_0 rfl ?_
  refine j_bipush (v := (61 : Int32)) hc dX2_comparisonOf_1 cb_61 ?_
  refine j_icmp_ne (tgt := 9) hc dX2_comparisonOf_3 rfl hf (fun hf => ?_) (fun hf => ?_)
  · refine j_iload_n hc dX2_comparisonOf_9 rfl ?_
    refine j_bipush (v := (60 : Int32)) hc dX2_comparisonOf_10 cb_60 ?_
    refine j_icmp_ne (tgt := 18) hc dX2_comparisonOf_12 rfl hf (fun hf => ?_) (fun hf => ?_)
    · refine j_iload_n hc dX2_comparisonOf_18 rfl ?_
      refine j_bipush (v := (62 : Int32)) hc dX2_comparisonOf_19 cb_62 ?_
      refine j_icmp_ne (tgt := 29) hc dX2_comparisonOf_21 rfl hf (fun hf => ?_) (fun hf => ?_)
      · refine j_iconst (v := (0 : Int32)) hc dX2_comparisonOf_29 ci_0 ?_
        exact j_ireturn hc dX2_comparisonOf_30 rfl rfl hf
      · refine j_bipush (v := (-17 : Int32)) hc dX2_comparisonOf_24 cb_m17 ?_
        refine j_goto (tgt := 30) hc dX2_comparisonOf_26 rfl ?_
        exact j_ireturn hc dX2_comparisonOf_30 rfl rfl hf
    · refine j_bipush (v := (-16 : Int32)) hc dX2_comparisonOf_15 cb_m16 ?_
      exact j_ireturn hc dX2_comparisonOf_17 rfl rfl hf
  · refine j_bipush (v := (-15 : Int32)) hc dX2_comparisonOf_6 cb_m15 ?_
    exact j_ireturn hc dX2_comparisonOf_8 rfl rfl hf

set_option maxRecDepth 100000 in
theorem qX2_comparisonOf (l : Launch) {al : Bool} (n d : Nat) (a0 : Int32) (I : am_I) (L : am_L) (r : Int32) (I' : am_I) (L' : am_L) (hf : fX2_comparisonOf n d a0 I L = some (r, I', L')) : am_C l yX2_comparisonOf cX2_comparisonOf 1 (some .int) (d + 1) [.int a0] (KC al) (RC al) I L (some (.int r)) I' L' := by
  exact am_intro (plainFor_of_name plX2) (fun _ _ => trivial) (Nat.le_of_ble_eq_true rfl) (fun x hl hc => by subst hl; exact j_sub (tX2_comparisonOf n d hc _ _ _ hf) (And.intro rfl (trivial)))
set_option maxRecDepth 100000 in
def fX2_readComparison (n d : Nat) (a1 : Int32) (I : am_I) (L : am_L) : Option (Int32 × am_I × am_L) :=
  am_b3 (fX8_at n d (I 27 3) I L) (fun v1 I1 L1 => am_b3 (fX2_comparisonOf n d v1 I1 L1) (fun v2 I2 L2 => am_lt v2 (fun v3 => if v3 = 0 then
    (some ((0 : Int32), I2, L2))
    else
    (am_b2 (fX2_goOn n d I2 L2) (fun I4 L4 => am_b3 (fX2_readSum n d a1 I4 L4) (fun v5 I5 L5 => if v5 = 0 then
      (some ((0 : Int32), I5, L5))
      else
      (am_b2 (fX2_put n d v3 I5 L5) (fun I6 L6 => some ((1 : Int32), I6, L6)))))))))

set_option maxRecDepth 100000 in
set_option maxHeartbeats 4000000 in
theorem tX2_readComparison {x : am_X} {al : Bool} (n d : Nat) (hc : am_ok x cX2_readComparison yX2_readComparison 3 (some .boolean) (d + 6) 0 0) {r : Int32} {I' : am_I} {L' : am_L} (a1 : Int32) (I : am_I) (L : am_L) (hf : fX2_readComparison n d a1 I L = some (r, I', L')) : am_J x (fun S => S = (some (.int r), (KC al), (RC al), I', L')) 0 [some (.ref 27), some (.int a1), none] [] (KC al) (RC al) I L 0 0 := by
  unfold fX2_readComparison at hf
  refine j_aload_n hc dX2_readComparison_0 rfl ?_
  refine j_getR (u := 1) hc dX2_readComparison_1 (fgC_X2_24_27 _) (rC_27_0 _) ?_
  refine j_aload_n hc dX2_readComparison_4 rfl ?_
  refine j_getI hc dX2_readComparison_5 (fgC_X2_21_27 _) ?_
  refine j_callVI (t := 1) (As := [.int (I 27 3)]) hc dX2_readComparison_8 kw_742 mX8_at (kC_1 _) clX8 rfl (by omega) (Nat.le_of_ble_eq_true rfl) (Nat.le_of_ble_eq_true rfl) ⟨Nat.le_refl _, Nat.le_refl _⟩ hf (fun v I' L' h => qX8_at x.2.1 n d (I 27 3) I L v I' L' h) (fun v1 I1 L1 hf => ?_)
  refine j_callSI (As := [.int v1]) hc dX2_readComparison_11 kw_782 mX2_comparisonOf  rfl (by omega) (Nat.le_of_ble_eq_true rfl) (Nat.le_of_ble_eq_true rfl) ⟨Nat.le_refl _, Nat.le_refl _⟩ hf (fun v I' L' h => qX2_comparisonOf x.2.1 n d v1 I1 L1 v I' L' h) (fun v2 I2 L2 hf => ?_)
  refine j_istore_n hc dX2_readComparison_14 (Nat.le_of_ble_eq_true rfl) hf (fun v3 hf => ?_)
  refine j_iload_n hc dX2_readComparison_15 rfl ?_
  refine j_if_ne (tgt := 21) hc dX2_readComparison_16 rfl hf (fun hf => ?_) (fun hf => ?_)
  · refine j_aload_n hc dX2_readComparison_21 rfl ?_
    refine j_callVV (t := 27) (As := []) hc dX2_readComparison_22 kw_772 mX2_goOn (kC_27 _) clX2 rfl (by omega) (Nat.le_of_ble_eq_true rfl) (Nat.le_of_ble_eq_true rfl) ⟨Nat.le_refl _, Nat.le_refl _⟩ hf (fun I' L' h => qX2_goOn x.2.1 n d I2 L2 I' L' h) (fun I4 L4 hf => ?_)
    refine j_aload_n hc dX2_readComparison_25 rfl ?_
    refine j_iload_n hc dX2_readComparison_26 rfl ?_
    refine j_callVI (t := 27) (As := [.int a1]) hc dX2_readComparison_27 kw_751 mX2_readSum (kC_27 _) clX2 rfl (by omega) (Nat.le_of_ble_eq_true rfl) (Nat.le_of_ble_eq_true rfl) ⟨Nat.le_refl _, Nat.le_refl _⟩ hf (fun v I' L' h => qX2_readSum x.2.1 n d a1 I4 L4 v I' L' h) (fun v5 I5 L5 hf => ?_)
    refine j_if_ne (tgt := 35) hc dX2_readComparison_30 rfl hf (fun hf => ?_) (fun hf => ?_)
    · refine j_aload_n hc dX2_readComparison_35 rfl ?_
      refine j_iload_n hc dX2_readComparison_36 rfl ?_
      refine j_callVV (t := 27) (As := [.int v3]) hc dX2_readComparison_37 kw_768 mX2_put (kC_27 _) clX2 rfl (by omega) (Nat.le_of_ble_eq_true rfl) (Nat.le_of_ble_eq_true rfl) ⟨Nat.le_refl _, Nat.le_refl _⟩ hf (fun I' L' h => qX2_put x.2.1 n d v3 I5 L5 I' L' h) (fun I6 L6 hf => ?_)
      refine j_iconst (v := (1 : Int32)) hc dX2_readComparison_40 ci_1 ?_
      exact j_zret hc dX2_readComparison_41 rfl rfl (Or.inr rfl) hf
    · refine j_iconst (v := (0 : Int32)) hc dX2_readComparison_33 ci_0 ?_
      exact j_zret hc dX2_readComparison_34 rfl rfl (Or.inl rfl) hf
  · refine j_iconst (v := (0 : Int32)) hc dX2_readComparison_19 ci_0 ?_
    exact j_zret hc dX2_readComparison_20 rfl rfl (Or.inl rfl) hf

set_option maxRecDepth 100000 in
theorem qX2_readComparison (l : Launch) {al : Bool} (n d : Nat) (a1 : Int32) (I : am_I) (L : am_L) (r : Int32) (I' : am_I) (L' : am_L) (hf : fX2_readComparison n d a1 I L = some (r, I', L')) : am_C l yX2_readComparison cX2_readComparison 3 (some .boolean) (d + 6) [.ref 27, .int a1] (KC al) (RC al) I L (some (.int r)) I' L' := by
  exact am_intro (plainFor_of_name plX2) (fun _ _ => trivial) (Nat.le_of_ble_eq_true rfl) (fun x hl hc => by subst hl; exact j_sub (tX2_readComparison n d hc _ _ _ hf) (And.intro rfl (And.intro rfl (trivial))))
set_option maxRecDepth 100000 in
def fX2_readCondition_g (n d : Nat) (g : Nat → Int32 → Int32 → Int32 → Int32 → Int32 → am_I → am_L → Option (Int32 × am_I × am_L)) (a1 : Int32) (I : am_I) (L : am_L) : Option (Int32 × am_I × am_L) :=
  am_b3 (g 1 a1 0 0 0 0 I L) (fun v1 I1 L1 => if v1 = 0 then
    (some ((0 : Int32), I1, L1))
    else
    (am_b3 (g 2 a1 0 0 0 0 I1 L1) (fun v2 I2 L2 => if v2 = 0 then
      (some ((0 : Int32), I2, L2))
      else
      (am_b3 (g 3 a1 0 0 0 0 I2 L2) (fun v3 I3 L3 => if v3 = 0 then
        (some ((0 : Int32), I3, L3))
        else
        (some ((1 : Int32), I3, L3)))))))

set_option maxRecDepth 100000 in
set_option maxHeartbeats 4000000 in
theorem tX2_readCondition_g {x : am_X} {al : Bool} (n d : Nat) (g : Nat → Int32 → Int32 → Int32 → Int32 → Int32 → am_I → am_L → Option (Int32 × am_I × am_L)) (hg : ∀ (w : Nat) (e1 e2 e3 e4 e5 : Int32) (I : am_I) (L : am_L) (v : Int32) (I' : am_I) (L' : am_L), g w e1 e2 e3 e4 e5 I L = some (v, I', L') → (w = 0 → am_C x.2.1 yX2_readCondition cX2_readCondition 2 (some .boolean) (d + 7) [.ref 27, .int e1] (KC al) (RC al) I L (some (.int v)) I' L') ∧ (w = 1 → am_C x.2.1 yX2_readUnit cX2_readUnit 3 (some .boolean) (d + 7) [.ref 27, .int e1] (KC al) (RC al) I L (some (.int v)) I' L') ∧ (w = 2 → am_C x.2.1 yX2_readMoreUnits cX2_readMoreUnits 3 (some .boolean) (d + 7) [.ref 27, .int e1] (KC al) (RC al) I L (some (.int v)) I' L') ∧ (w = 3 → am_C x.2.1 yX2_readMoreTruths cX2_readMoreTruths 3 (some .boolean) (d + 7) [.ref 27, .int e1] (KC al) (RC al) I L (some (.int v)) I' L')) (hc : am_ok x cX2_readCondition yX2_readCondition 2 (some .boolean) (d + 8) 0 0) {r : Int32} {I' : am_I} {L' : am_L} (a1 : Int32) (I : am_I) (L : am_L) (hf : fX2_readCondition_g n d g a1 I L = some (r, I', L')) : am_J x (fun S => S = (some (.int r), (KC al), (RC al), I', L')) 0 [some (.ref 27), some (.int a1)] [] (KC al) (RC al) I L 0 0 := by
  unfold fX2_readCondition_g at hf
  refine j_aload_n hc dX2_readCondition_0 rfl ?_
  refine j_iload_n hc dX2_readCondition_1 rfl ?_
  refine j_callVI (t := 27) (As := [.int a1]) hc dX2_readCondition_2 kw_747 mX2_readUnit (kC_27 _) clX2 rfl (by omega) (Nat.le_of_ble_eq_true rfl) (Nat.le_of_ble_eq_true rfl) ⟨Nat.le_refl _, Nat.le_refl _⟩ hf (fun v I' L' h => (hg 1 _ _ _ _ _ _ _ _ _ _ h).2.1 rfl) (fun v1 I1 L1 hf => ?_)
  refine j_if_eq (tgt := 28) hc dX2_readCondition_5 rfl hf (fun hf => ?_) (fun hf => ?_)
  · refine j_iconst (v := (0 : Int32)) hc dX2_readCondition_28 ci_0 ?_
    exact j_zret hc dX2_readCondition_29 rfl rfl (Or.inl rfl) hf
  · refine j_aload_n hc dX2_readCondition_8 rfl ?_
    refine j_iload_n hc dX2_readCondition_9 rfl ?_
    refine j_callVI (t := 27) (As := [.int a1]) hc dX2_readCondition_10 kw_785 mX2_readMoreUnits (kC_27 _) clX2 rfl (by omega) (Nat.le_of_ble_eq_true rfl) (Nat.le_of_ble_eq_true rfl) ⟨Nat.le_refl _, Nat.le_refl _⟩ hf (fun v I' L' h => (hg 2 _ _ _ _ _ _ _ _ _ _ h).2.2.1 rfl) (fun v2 I2 L2 hf => ?_)
    refine j_if_eq (tgt := 28) hc dX2_readCondition_13 rfl hf (fun hf => ?_) (fun hf => ?_)
    · refine j_iconst (v := (0 : Int32)) hc dX2_readCondition_28 ci_0 ?_
      exact j_zret hc dX2_readCondition_29 rfl rfl (Or.inl rfl) hf
    · refine j_aload_n hc dX2_readCondition_16 rfl ?_
      refine j_iload_n hc dX2_readCondition_17 rfl ?_
      refine j_callVI (t := 27) (As := [.int a1]) hc dX2_readCondition_18 kw_789 mX2_readMoreTruths (kC_27 _) clX2 rfl (by omega) (Nat.le_of_ble_eq_true rfl) (Nat.le_of_ble_eq_true rfl) ⟨Nat.le_refl _, Nat.le_refl _⟩ hf (fun v I' L' h => (hg 3 _ _ _ _ _ _ _ _ _ _ h).2.2.2 rfl) (fun v3 I3 L3 hf => ?_)
      refine j_if_eq (tgt := 28) hc dX2_readCondition_21 rfl hf (fun hf => ?_) (fun hf => ?_)
      · refine j_iconst (v := (0 : Int32)) hc dX2_readCondition_28 ci_0 ?_
        exact j_zret hc dX2_readCondition_29 rfl rfl (Or.inl rfl) hf
      · refine j_iconst (v := (1 : Int32)) hc dX2_readCondition_24 ci_1 ?_
        refine j_goto (tgt := 29) hc dX2_readCondition_25 rfl ?_
        exact j_zret hc dX2_readCondition_29 rfl rfl (Or.inr rfl) hf

set_option maxRecDepth 100000 in
def fX2_readUnit_b46 (n d : Nat) (g : Nat → Int32 → Int32 → Int32 → Int32 → Int32 → am_I → am_L → Option (Int32 × am_I × am_L)) (a1 : Int32) (a2 : Int32) (I : am_I) (L : am_L) : Option (Int32 × am_I × am_L) :=
  if a1 < (6 : Int32) then
    (am_b2 (fX2_goOn n d I L) (fun I1 L1 => if a2 = (40 : Int32) then
      (am_b3 (g 0 (a1 + (1 : Int32)) 0 0 0 0 I1 L1) (fun v4 I4 L4 => if v4 = 0 then
        (some ((0 : Int32), I4, L4))
        else
        (am_b3 (fX2_takes n d (41 : Int32) I4 L4) (fun v5 I5 L5 => if v5 = 0 then
          (some ((0 : Int32), I5, L5))
          else
          (some ((1 : Int32), I5, L5))))))
      else
      (am_b3 (g 1 (a1 + (1 : Int32)) 0 0 0 0 I1 L1) (fun v2 I2 L2 => if v2 = 0 then
        (some ((0 : Int32), I2, L2))
        else
        (am_b2 (fX2_put n d (-20 : Int32) I2 L2) (fun I3 L3 => some ((1 : Int32), I3, L3)))))))
    else
    (some ((0 : Int32), I, L))

set_option maxRecDepth 100000 in
set_option maxHeartbeats 4000000 in
theorem tX2_readUnit_b46 {x : am_X} {al : Bool} (n d : Nat) (g : Nat → Int32 → Int32 → Int32 → Int32 → Int32 → am_I → am_L → Option (Int32 × am_I × am_L)) (hg : ∀ (w : Nat) (e1 e2 e3 e4 e5 : Int32) (I : am_I) (L : am_L) (v : Int32) (I' : am_I) (L' : am_L), g w e1 e2 e3 e4 e5 I L = some (v, I', L') → (w = 0 → am_C x.2.1 yX2_readCondition cX2_readCondition 2 (some .boolean) (d + 7) [.ref 27, .int e1] (KC al) (RC al) I L (some (.int v)) I' L') ∧ (w = 1 → am_C x.2.1 yX2_readUnit cX2_readUnit 3 (some .boolean) (d + 7) [.ref 27, .int e1] (KC al) (RC al) I L (some (.int v)) I' L') ∧ (w = 2 → am_C x.2.1 yX2_readMoreUnits cX2_readMoreUnits 3 (some .boolean) (d + 7) [.ref 27, .int e1] (KC al) (RC al) I L (some (.int v)) I' L') ∧ (w = 3 → am_C x.2.1 yX2_readMoreTruths cX2_readMoreTruths 3 (some .boolean) (d + 7) [.ref 27, .int e1] (KC al) (RC al) I L (some (.int v)) I' L')) (hc : am_ok x cX2_readUnit yX2_readUnit 3 (some .boolean) (d + 8) 0 0) {r : Int32} {I' : am_I} {L' : am_L} (a1 : Int32) (a2 : Int32) (I : am_I) (L : am_L) (hf : fX2_readUnit_b46 n d g a1 a2 I L = some (r, I', L')) : am_J x (fun S => S = (some (.int r), (KC al), (RC al), I', L')) 46 [some (.ref 27), some (.int a1), some (.int a2)] [] (KC al) (RC al) I L 0 0 := by
  unfold fX2_readUnit_b46 at hf
  refine j_iload_n hc dX2_readUnit_46 rfl ?_
  refine j_bipush (v := (6 : Int32)) hc dX2_readUnit_47 cb_6 ?_
  refine j_icmp_lt (tgt := 54) hc dX2_readUnit_49 rfl hf (fun hf => ?_) (fun hf => ?_)
  · refine j_aload_n hc dX2_readUnit_54 rfl ?_
    refine j_callVV (t := 27) (As := []) hc dX2_readUnit_55 kw_772 mX2_goOn (kC_27 _) clX2 rfl (by omega) (Nat.le_of_ble_eq_true rfl) (Nat.le_of_ble_eq_true rfl) ⟨Nat.le_refl _, Nat.le_refl _⟩ hf (fun I' L' h => qX2_goOn x.2.1 n d I L I' L' h) (fun I1 L1 hf => ?_)
    refine j_iload_n hc dX2_readUnit_58 rfl ?_
    refine j_bipush (v := (40 : Int32)) hc dX2_readUnit_59 cb_40 ?_
    refine j_icmp_ne (tgt := 89) hc dX2_readUnit_61 rfl hf (fun hf => ?_) (fun hf => ?_)
    · refine j_aload_n hc dX2_readUnit_89 rfl ?_
      refine j_iload_n hc dX2_readUnit_90 rfl ?_
      refine j_iconst (v := (1 : Int32)) hc dX2_readUnit_91 ci_1 ?_
      refine j_iadd hc dX2_readUnit_92 ?_
      refine j_callVI (t := 27) (As := [.int (a1 + (1 : Int32))]) hc dX2_readUnit_93 kw_747 mX2_readUnit (kC_27 _) clX2 rfl (by omega) (Nat.le_of_ble_eq_true rfl) (Nat.le_of_ble_eq_true rfl) ⟨Nat.le_refl _, Nat.le_refl _⟩ hf (fun v I' L' h => (hg 1 _ _ _ _ _ _ _ _ _ _ h).2.1 rfl) (fun v2 I2 L2 hf => ?_)
      refine j_if_ne (tgt := 101) hc dX2_readUnit_96 rfl hf (fun hf => ?_) (fun hf => ?_)
      · refine j_aload_n hc dX2_readUnit_101 rfl ?_
        refine j_bipush (v := (-20 : Int32)) hc dX2_readUnit_102 cb_m20 ?_
        refine j_callVV (t := 27) (As := [.int (-20 : Int32)]) hc dX2_readUnit_104 kw_768 mX2_put (kC_27 _) clX2 rfl (by omega) (Nat.le_of_ble_eq_true rfl) (Nat.le_of_ble_eq_true rfl) ⟨Nat.le_refl _, Nat.le_refl _⟩ hf (fun I' L' h => qX2_put x.2.1 n d (-20 : Int32) I2 L2 I' L' h) (fun I3 L3 hf => ?_)
        refine j_iconst (v := (1 : Int32)) hc dX2_readUnit_107 ci_1 ?_
        exact j_zret hc dX2_readUnit_108 rfl rfl (Or.inr rfl) hf
      · refine j_iconst (v := (0 : Int32)) hc dX2_readUnit_99 ci_0 ?_
        exact j_zret hc dX2_readUnit_100 rfl rfl (Or.inl rfl) hf
    · refine j_aload_n hc dX2_readUnit_64 rfl ?_
      refine j_iload_n hc dX2_readUnit_65 rfl ?_
      refine j_iconst (v := (1 : Int32)) hc dX2_readUnit_66 ci_1 ?_
      refine j_iadd hc dX2_readUnit_67 ?_
      refine j_callVI (t := 27) (As := [.int (a1 + (1 : Int32))]) hc dX2_readUnit_68 kw_743 mX2_readCondition (kC_27 _) clX2 rfl (by omega) (Nat.le_of_ble_eq_true rfl) (Nat.le_of_ble_eq_true rfl) ⟨Nat.le_refl _, Nat.le_refl _⟩ hf (fun v I' L' h => (hg 0 _ _ _ _ _ _ _ _ _ _ h).1 rfl) (fun v4 I4 L4 hf => ?_)
      refine j_if_eq (tgt := 87) hc dX2_readUnit_71 rfl hf (fun hf => ?_) (fun hf => ?_)
      · refine j_iconst (v := (0 : Int32)) hc dX2_readUnit_87 ci_0 ?_
        exact j_zret hc dX2_readUnit_88 rfl rfl (Or.inl rfl) hf
      · refine j_aload_n hc dX2_readUnit_74 rfl ?_
        refine j_bipush (v := (41 : Int32)) hc dX2_readUnit_75 cb_41 ?_
        refine j_callVI (t := 27) (As := [.int (41 : Int32)]) hc dX2_readUnit_77 kw_738 mX2_takes (kC_27 _) clX2 rfl (by omega) (Nat.le_of_ble_eq_true rfl) (Nat.le_of_ble_eq_true rfl) ⟨Nat.le_refl _, Nat.le_refl _⟩ hf (fun v I' L' h => qX2_takes x.2.1 n d (41 : Int32) I4 L4 v I' L' h) (fun v5 I5 L5 hf => ?_)
        refine j_if_eq (tgt := 87) hc dX2_readUnit_80 rfl hf (fun hf => ?_) (fun hf => ?_)
        · refine j_iconst (v := (0 : Int32)) hc dX2_readUnit_87 ci_0 ?_
          exact j_zret hc dX2_readUnit_88 rfl rfl (Or.inl rfl) hf
        · refine j_iconst (v := (1 : Int32)) hc dX2_readUnit_83 ci_1 ?_
          refine j_goto (tgt := 88) hc dX2_readUnit_84 rfl ?_
          exact j_zret hc dX2_readUnit_88 rfl rfl (Or.inr rfl) hf
  · refine j_iconst (v := (0 : Int32)) hc dX2_readUnit_52 ci_0 ?_
    exact j_zret hc dX2_readUnit_53 rfl rfl (Or.inl rfl) hf

set_option maxRecDepth 100000 in
def fX2_readUnit_g (n d : Nat) (g : Nat → Int32 → Int32 → Int32 → Int32 → Int32 → am_I → am_L → Option (Int32 × am_I × am_L)) (a1 : Int32) (I : am_I) (L : am_L) : Option (Int32 × am_I × am_L) :=
  am_b3 (fX8_at n d (I 27 3) I L) (fun v1 I1 L1 => am_lt v1 (fun v2 => if v2 = (33 : Int32) then
    (fX2_readUnit_b46 n d g a1 v2 I1 L1)
    else
    (if v2 = (40 : Int32) then
      (fX2_readUnit_b46 n d g a1 v2 I1 L1)
      else
      (am_b3 (fX2_readSum n d a1 I1 L1) (fun v3 I3 L3 => if v3 = 0 then
        (some ((0 : Int32), I3, L3))
        else
        (am_b3 (fX2_readComparison n d a1 I3 L3) (fun v4 I4 L4 => if v4 = 0 then
          (some ((0 : Int32), I4, L4))
          else
          (some ((1 : Int32), I4, L4)))))))))

set_option maxRecDepth 100000 in
set_option maxHeartbeats 4000000 in
theorem tX2_readUnit_g {x : am_X} {al : Bool} (n d : Nat) (g : Nat → Int32 → Int32 → Int32 → Int32 → Int32 → am_I → am_L → Option (Int32 × am_I × am_L)) (hg : ∀ (w : Nat) (e1 e2 e3 e4 e5 : Int32) (I : am_I) (L : am_L) (v : Int32) (I' : am_I) (L' : am_L), g w e1 e2 e3 e4 e5 I L = some (v, I', L') → (w = 0 → am_C x.2.1 yX2_readCondition cX2_readCondition 2 (some .boolean) (d + 7) [.ref 27, .int e1] (KC al) (RC al) I L (some (.int v)) I' L') ∧ (w = 1 → am_C x.2.1 yX2_readUnit cX2_readUnit 3 (some .boolean) (d + 7) [.ref 27, .int e1] (KC al) (RC al) I L (some (.int v)) I' L') ∧ (w = 2 → am_C x.2.1 yX2_readMoreUnits cX2_readMoreUnits 3 (some .boolean) (d + 7) [.ref 27, .int e1] (KC al) (RC al) I L (some (.int v)) I' L') ∧ (w = 3 → am_C x.2.1 yX2_readMoreTruths cX2_readMoreTruths 3 (some .boolean) (d + 7) [.ref 27, .int e1] (KC al) (RC al) I L (some (.int v)) I' L')) (hc : am_ok x cX2_readUnit yX2_readUnit 3 (some .boolean) (d + 8) 0 0) {r : Int32} {I' : am_I} {L' : am_L} (a1 : Int32) (I : am_I) (L : am_L) (hf : fX2_readUnit_g n d g a1 I L = some (r, I', L')) : am_J x (fun S => S = (some (.int r), (KC al), (RC al), I', L')) 0 [some (.ref 27), some (.int a1), none] [] (KC al) (RC al) I L 0 0 := by
  unfold fX2_readUnit_g at hf
  refine j_aload_n hc dX2_readUnit_0 rfl ?_
  refine j_getR (u := 1) hc dX2_readUnit_1 (fgC_X2_24_27 _) (rC_27_0 _) ?_
  refine j_aload_n hc dX2_readUnit_4 rfl ?_
  refine j_getI hc dX2_readUnit_5 (fgC_X2_21_27 _) ?_
  refine j_callVI (t := 1) (As := [.int (I 27 3)]) hc dX2_readUnit_8 kw_742 mX8_at (kC_1 _) clX8 rfl (by omega) (Nat.le_of_ble_eq_true rfl) (Nat.le_of_ble_eq_true rfl) ⟨Nat.le_refl _, Nat.le_refl _⟩ hf (fun v I' L' h => qX8_at x.2.1 n d (I 27 3) I L v I' L' h) (fun v1 I1 L1 hf => ?_)
  refine j_istore_n hc dX2_readUnit_11 (Nat.le_of_ble_eq_true rfl) hf (fun v2 hf => ?_)
  refine j_iload_n hc dX2_readUnit_12 rfl ?_
  refine j_bipush (v := (33 : Int32)) hc dX2_readUnit_13 cb_33 ?_
  refine j_icmp_eq (tgt := 46) hc dX2_readUnit_15 rfl hf (fun hf => ?_) (fun hf => ?_)
  · exact j_sub (tX2_readUnit_b46 n d g hg hc _ _ _ _ hf) (And.intro rfl (And.intro rfl (And.intro rfl (trivial))))
  · refine j_iload_n hc dX2_readUnit_18 rfl ?_
    refine j_bipush (v := (40 : Int32)) hc dX2_readUnit_19 cb_40 ?_
    refine j_icmp_eq (tgt := 46) hc dX2_readUnit_21 rfl hf (fun hf => ?_) (fun hf => ?_)
    · exact j_sub (tX2_readUnit_b46 n d g hg hc _ _ _ _ hf) (And.intro rfl (And.intro rfl (And.intro rfl (trivial))))
    · refine j_aload_n hc dX2_readUnit_24 rfl ?_
      refine j_iload_n hc dX2_readUnit_25 rfl ?_
      refine j_callVI (t := 27) (As := [.int a1]) hc dX2_readUnit_26 kw_751 mX2_readSum (kC_27 _) clX2 rfl (by omega) (Nat.le_of_ble_eq_true rfl) (Nat.le_of_ble_eq_true rfl) ⟨Nat.le_refl _, Nat.le_refl _⟩ hf (fun v I' L' h => qX2_readSum x.2.1 n d a1 I1 L1 v I' L' h) (fun v3 I3 L3 hf => ?_)
      refine j_if_eq (tgt := 44) hc dX2_readUnit_29 rfl hf (fun hf => ?_) (fun hf => ?_)
      · refine j_iconst (v := (0 : Int32)) hc dX2_readUnit_44 ci_0 ?_
        exact j_zret hc dX2_readUnit_45 rfl rfl (Or.inl rfl) hf
      · refine j_aload_n hc dX2_readUnit_32 rfl ?_
        refine j_iload_n hc dX2_readUnit_33 rfl ?_
        refine j_callVI (t := 27) (As := [.int a1]) hc dX2_readUnit_34 kw_778 mX2_readComparison (kC_27 _) clX2 rfl (by omega) (Nat.le_of_ble_eq_true rfl) (Nat.le_of_ble_eq_true rfl) ⟨Nat.le_refl _, Nat.le_refl _⟩ hf (fun v I' L' h => qX2_readComparison x.2.1 n d a1 I3 L3 v I' L' h) (fun v4 I4 L4 hf => ?_)
        refine j_if_eq (tgt := 44) hc dX2_readUnit_37 rfl hf (fun hf => ?_) (fun hf => ?_)
        · refine j_iconst (v := (0 : Int32)) hc dX2_readUnit_44 ci_0 ?_
          exact j_zret hc dX2_readUnit_45 rfl rfl (Or.inl rfl) hf
        · refine j_iconst (v := (1 : Int32)) hc dX2_readUnit_40 ci_1 ?_
          refine j_goto (tgt := 45) hc dX2_readUnit_41 rfl ?_
          exact j_zret hc dX2_readUnit_45 rfl rfl (Or.inr rfl) hf

set_option maxRecDepth 100000 in
def fX2_readMoreUnits_b2w (n d : Nat) (g : Nat → Int32 → Int32 → Int32 → Int32 → Int32 → am_I → am_L → Option (Int32 × am_I × am_L)) (k2 : Int32 → Int32 → am_I → am_L → Option (Int32 × am_I × am_L)) (a1 : Int32) (a2 : Int32) (I : am_I) (L : am_L) : Option (Int32 × am_I × am_L) :=
  if (240 : Int32) < a2 then
    (some ((1 : Int32), I, L))
    else
    (am_b3 (fX2_takes n d (38 : Int32) I L) (fun v1 I1 L1 => if v1 = 0 then
      (some ((1 : Int32), I1, L1))
      else
      (am_b3 (g 1 a1 0 0 0 0 I1 L1) (fun v2 I2 L2 => if v2 = 0 then
        (some ((0 : Int32), I2, L2))
        else
        (am_b2 (fX2_put n d (-18 : Int32) I2 L2) (fun I3 L3 => am_lt (a2 + (1 : Int32)) (fun v4 => k2 a1 v4 I3 L3)))))))

set_option maxRecDepth 100000 in
set_option maxHeartbeats 4000000 in
theorem tX2_readMoreUnits_b2w {x : am_X} {al : Bool} (n d : Nat) (g : Nat → Int32 → Int32 → Int32 → Int32 → Int32 → am_I → am_L → Option (Int32 × am_I × am_L)) (hg : ∀ (w : Nat) (e1 e2 e3 e4 e5 : Int32) (I : am_I) (L : am_L) (v : Int32) (I' : am_I) (L' : am_L), g w e1 e2 e3 e4 e5 I L = some (v, I', L') → (w = 0 → am_C x.2.1 yX2_readCondition cX2_readCondition 2 (some .boolean) (d + 7) [.ref 27, .int e1] (KC al) (RC al) I L (some (.int v)) I' L') ∧ (w = 1 → am_C x.2.1 yX2_readUnit cX2_readUnit 3 (some .boolean) (d + 7) [.ref 27, .int e1] (KC al) (RC al) I L (some (.int v)) I' L') ∧ (w = 2 → am_C x.2.1 yX2_readMoreUnits cX2_readMoreUnits 3 (some .boolean) (d + 7) [.ref 27, .int e1] (KC al) (RC al) I L (some (.int v)) I' L') ∧ (w = 3 → am_C x.2.1 yX2_readMoreTruths cX2_readMoreTruths 3 (some .boolean) (d + 7) [.ref 27, .int e1] (KC al) (RC al) I L (some (.int v)) I' L')) (hc : am_ok x cX2_readMoreUnits yX2_readMoreUnits 3 (some .boolean) (d + 8) 0 0) {r : Int32} {I' : am_I} {L' : am_L} (k2 : Int32 → Int32 → am_I → am_L → Option (Int32 × am_I × am_L)) (hk2 : ∀ (a1 : Int32) (a2 : Int32) (I : am_I) (L : am_L), k2 a1 a2 I L = some (r, I', L') → am_J x (fun S => S = (some (.int r), (KC al), (RC al), I', L')) 2 [some (.ref 27), some (.int a1), some (.int a2)] [] (KC al) (RC al) I L 0 0) (a1 : Int32) (a2 : Int32) (I : am_I) (L : am_L) (hf : fX2_readMoreUnits_b2w n d g k2 a1 a2 I L = some (r, I', L')) : am_J x (fun S => S = (some (.int r), (KC al), (RC al), I', L')) 2 [some (.ref 27), some (.int a1), some (.int a2)] [] (KC al) (RC al) I L 0 0 := by
  unfold fX2_readMoreUnits_b2w at hf
  refine j_iload_n hc dX2_readMoreUnits_2 rfl ?_
  refine j_sipush (v := (240 : Int32)) hc dX2_readMoreUnits_3 cs_240 ?_
  refine j_icmp_gt (tgt := 40) hc dX2_readMoreUnits_6 rfl hf (fun hf => ?_) (fun hf => ?_)
  · refine j_iconst (v := (1 : Int32)) hc dX2_readMoreUnits_40 ci_1 ?_
    exact j_zret hc dX2_readMoreUnits_41 rfl rfl (Or.inr rfl) hf
  · refine j_aload_n hc dX2_readMoreUnits_9 rfl ?_
    refine j_bipush (v := (38 : Int32)) hc dX2_readMoreUnits_10 cb_38 ?_
    refine j_callVI (t := 27) (As := [.int (38 : Int32)]) hc dX2_readMoreUnits_12 kw_738 mX2_takes (kC_27 _) clX2 rfl (by omega) (Nat.le_of_ble_eq_true rfl) (Nat.le_of_ble_eq_true rfl) ⟨Nat.le_refl _, Nat.le_refl _⟩ hf (fun v I' L' h => qX2_takes x.2.1 n d (38 : Int32) I L v I' L' h) (fun v1 I1 L1 hf => ?_)
    refine j_if_eq (tgt := 40) hc dX2_readMoreUnits_15 rfl hf (fun hf => ?_) (fun hf => ?_)
    · refine j_iconst (v := (1 : Int32)) hc dX2_readMoreUnits_40 ci_1 ?_
      exact j_zret hc dX2_readMoreUnits_41 rfl rfl (Or.inr rfl) hf
    · refine j_aload_n hc dX2_readMoreUnits_18 rfl ?_
      refine j_iload_n hc dX2_readMoreUnits_19 rfl ?_
      refine j_callVI (t := 27) (As := [.int a1]) hc dX2_readMoreUnits_20 kw_747 mX2_readUnit (kC_27 _) clX2 rfl (by omega) (Nat.le_of_ble_eq_true rfl) (Nat.le_of_ble_eq_true rfl) ⟨Nat.le_refl _, Nat.le_refl _⟩ hf (fun v I' L' h => (hg 1 _ _ _ _ _ _ _ _ _ _ h).2.1 rfl) (fun v2 I2 L2 hf => ?_)
      refine j_if_ne (tgt := 28) hc dX2_readMoreUnits_23 rfl hf (fun hf => ?_) (fun hf => ?_)
      · refine j_aload_n hc dX2_readMoreUnits_28 rfl ?_
        refine j_bipush (v := (-18 : Int32)) hc dX2_readMoreUnits_29 cb_m18 ?_
        refine j_callVV (t := 27) (As := [.int (-18 : Int32)]) hc dX2_readMoreUnits_31 kw_768 mX2_put (kC_27 _) clX2 rfl (by omega) (Nat.le_of_ble_eq_true rfl) (Nat.le_of_ble_eq_true rfl) ⟨Nat.le_refl _, Nat.le_refl _⟩ hf (fun I' L' h => qX2_put x.2.1 n d (-18 : Int32) I2 L2 I' L' h) (fun I3 L3 hf => ?_)
        refine j_iinc (w := (1 : Int32)) hc dX2_readMoreUnits_34 rfl ci_1 (Nat.le_of_ble_eq_true rfl) hf (fun v4 hf => ?_)
        refine j_goto (tgt := 2) hc dX2_readMoreUnits_37 rfl ?_
        exact j_sub (hk2 _ _ _ _ hf) (And.intro rfl (And.intro rfl (And.intro rfl (trivial))))
      · refine j_iconst (v := (0 : Int32)) hc dX2_readMoreUnits_26 ci_0 ?_
        exact j_zret hc dX2_readMoreUnits_27 rfl rfl (Or.inl rfl) hf

def fX2_readMoreUnits_b2 (n d : Nat) (g : Nat → Int32 → Int32 → Int32 → Int32 → Int32 → am_I → am_L → Option (Int32 × am_I × am_L)) : Nat → Int32 → Int32 → am_I → am_L → Option (Int32 × am_I × am_L)
  | 0 => fun _ _ _ _ => none
  | m + 1 => fX2_readMoreUnits_b2w n d g (fX2_readMoreUnits_b2 n d g m)

set_option maxRecDepth 100000 in
theorem tX2_readMoreUnits_b2 {x : am_X} {al : Bool} (n d : Nat) (g : Nat → Int32 → Int32 → Int32 → Int32 → Int32 → am_I → am_L → Option (Int32 × am_I × am_L)) (hg : ∀ (w : Nat) (e1 e2 e3 e4 e5 : Int32) (I : am_I) (L : am_L) (v : Int32) (I' : am_I) (L' : am_L), g w e1 e2 e3 e4 e5 I L = some (v, I', L') → (w = 0 → am_C x.2.1 yX2_readCondition cX2_readCondition 2 (some .boolean) (d + 7) [.ref 27, .int e1] (KC al) (RC al) I L (some (.int v)) I' L') ∧ (w = 1 → am_C x.2.1 yX2_readUnit cX2_readUnit 3 (some .boolean) (d + 7) [.ref 27, .int e1] (KC al) (RC al) I L (some (.int v)) I' L') ∧ (w = 2 → am_C x.2.1 yX2_readMoreUnits cX2_readMoreUnits 3 (some .boolean) (d + 7) [.ref 27, .int e1] (KC al) (RC al) I L (some (.int v)) I' L') ∧ (w = 3 → am_C x.2.1 yX2_readMoreTruths cX2_readMoreTruths 3 (some .boolean) (d + 7) [.ref 27, .int e1] (KC al) (RC al) I L (some (.int v)) I' L')) (hc : am_ok x cX2_readMoreUnits yX2_readMoreUnits 3 (some .boolean) (d + 8) 0 0) {r : Int32} {I' : am_I} {L' : am_L} (m : Nat) : ∀ (a1 : Int32) (a2 : Int32) (I : am_I) (L : am_L) (hf : fX2_readMoreUnits_b2 n d g m a1 a2 I L = some (r, I', L')), am_J x (fun S => S = (some (.int r), (KC al), (RC al), I', L')) 2 [some (.ref 27), some (.int a1), some (.int a2)] [] (KC al) (RC al) I L 0 0 := by
  induction m with
  | zero => intro a1 a2 I L hf; exact (Option.some_ne_none _ hf.symm).elim
  | succ m ih => intro a1 a2 I L hf; exact tX2_readMoreUnits_b2w n d g hg hc (fX2_readMoreUnits_b2 n d g m) ih a1 a2 I L hf

set_option maxRecDepth 100000 in
def fX2_readMoreUnits_g (n d : Nat) (g : Nat → Int32 → Int32 → Int32 → Int32 → Int32 → am_I → am_L → Option (Int32 × am_I × am_L)) (a1 : Int32) (I : am_I) (L : am_L) : Option (Int32 × am_I × am_L) :=
  am_lt (0 : Int32) (fun v1 => fX2_readMoreUnits_b2 n d g n a1 v1 I L)

set_option maxRecDepth 100000 in
set_option maxHeartbeats 4000000 in
theorem tX2_readMoreUnits_g {x : am_X} {al : Bool} (n d : Nat) (g : Nat → Int32 → Int32 → Int32 → Int32 → Int32 → am_I → am_L → Option (Int32 × am_I × am_L)) (hg : ∀ (w : Nat) (e1 e2 e3 e4 e5 : Int32) (I : am_I) (L : am_L) (v : Int32) (I' : am_I) (L' : am_L), g w e1 e2 e3 e4 e5 I L = some (v, I', L') → (w = 0 → am_C x.2.1 yX2_readCondition cX2_readCondition 2 (some .boolean) (d + 7) [.ref 27, .int e1] (KC al) (RC al) I L (some (.int v)) I' L') ∧ (w = 1 → am_C x.2.1 yX2_readUnit cX2_readUnit 3 (some .boolean) (d + 7) [.ref 27, .int e1] (KC al) (RC al) I L (some (.int v)) I' L') ∧ (w = 2 → am_C x.2.1 yX2_readMoreUnits cX2_readMoreUnits 3 (some .boolean) (d + 7) [.ref 27, .int e1] (KC al) (RC al) I L (some (.int v)) I' L') ∧ (w = 3 → am_C x.2.1 yX2_readMoreTruths cX2_readMoreTruths 3 (some .boolean) (d + 7) [.ref 27, .int e1] (KC al) (RC al) I L (some (.int v)) I' L')) (hc : am_ok x cX2_readMoreUnits yX2_readMoreUnits 3 (some .boolean) (d + 8) 0 0) {r : Int32} {I' : am_I} {L' : am_L} (a1 : Int32) (I : am_I) (L : am_L) (hf : fX2_readMoreUnits_g n d g a1 I L = some (r, I', L')) : am_J x (fun S => S = (some (.int r), (KC al), (RC al), I', L')) 0 [some (.ref 27), some (.int a1), none] [] (KC al) (RC al) I L 0 0 := by
  unfold fX2_readMoreUnits_g at hf
  refine j_iconst (v := (0 : Int32)) hc dX2_readMoreUnits_0 ci_0 ?_
  refine j_istore_n hc dX2_readMoreUnits_1 (Nat.le_of_ble_eq_true rfl) hf (fun v1 hf => ?_)
  exact j_sub (tX2_readMoreUnits_b2 n d g hg hc n _ _ _ _ hf) (And.intro rfl (And.intro rfl (And.intro rfl (trivial))))

set_option maxRecDepth 100000 in
def fX2_readMoreTruths_b2w (n d : Nat) (g : Nat → Int32 → Int32 → Int32 → Int32 → Int32 → am_I → am_L → Option (Int32 × am_I × am_L)) (k2 : Int32 → Int32 → am_I → am_L → Option (Int32 × am_I × am_L)) (a1 : Int32) (a2 : Int32) (I : am_I) (L : am_L) : Option (Int32 × am_I × am_L) :=
  if (240 : Int32) < a2 then
    (some ((1 : Int32), I, L))
    else
    (am_b3 (fX2_takes n d (124 : Int32) I L) (fun v1 I1 L1 => if v1 = 0 then
      (some ((1 : Int32), I1, L1))
      else
      (am_b3 (g 1 a1 0 0 0 0 I1 L1) (fun v2 I2 L2 => if v2 = 0 then
        (some ((0 : Int32), I2, L2))
        else
        (am_b3 (g 2 a1 0 0 0 0 I2 L2) (fun v3 I3 L3 => if v3 = 0 then
          (some ((0 : Int32), I3, L3))
          else
          (am_b2 (fX2_put n d (-19 : Int32) I3 L3) (fun I4 L4 => am_lt (a2 + (1 : Int32)) (fun v5 => k2 a1 v5 I4 L4)))))))))

set_option maxRecDepth 100000 in
set_option maxHeartbeats 4000000 in
theorem tX2_readMoreTruths_b2w {x : am_X} {al : Bool} (n d : Nat) (g : Nat → Int32 → Int32 → Int32 → Int32 → Int32 → am_I → am_L → Option (Int32 × am_I × am_L)) (hg : ∀ (w : Nat) (e1 e2 e3 e4 e5 : Int32) (I : am_I) (L : am_L) (v : Int32) (I' : am_I) (L' : am_L), g w e1 e2 e3 e4 e5 I L = some (v, I', L') → (w = 0 → am_C x.2.1 yX2_readCondition cX2_readCondition 2 (some .boolean) (d + 7) [.ref 27, .int e1] (KC al) (RC al) I L (some (.int v)) I' L') ∧ (w = 1 → am_C x.2.1 yX2_readUnit cX2_readUnit 3 (some .boolean) (d + 7) [.ref 27, .int e1] (KC al) (RC al) I L (some (.int v)) I' L') ∧ (w = 2 → am_C x.2.1 yX2_readMoreUnits cX2_readMoreUnits 3 (some .boolean) (d + 7) [.ref 27, .int e1] (KC al) (RC al) I L (some (.int v)) I' L') ∧ (w = 3 → am_C x.2.1 yX2_readMoreTruths cX2_readMoreTruths 3 (some .boolean) (d + 7) [.ref 27, .int e1] (KC al) (RC al) I L (some (.int v)) I' L')) (hc : am_ok x cX2_readMoreTruths yX2_readMoreTruths 3 (some .boolean) (d + 8) 0 0) {r : Int32} {I' : am_I} {L' : am_L} (k2 : Int32 → Int32 → am_I → am_L → Option (Int32 × am_I × am_L)) (hk2 : ∀ (a1 : Int32) (a2 : Int32) (I : am_I) (L : am_L), k2 a1 a2 I L = some (r, I', L') → am_J x (fun S => S = (some (.int r), (KC al), (RC al), I', L')) 2 [some (.ref 27), some (.int a1), some (.int a2)] [] (KC al) (RC al) I L 0 0) (a1 : Int32) (a2 : Int32) (I : am_I) (L : am_L) (hf : fX2_readMoreTruths_b2w n d g k2 a1 a2 I L = some (r, I', L')) : am_J x (fun S => S = (some (.int r), (KC al), (RC al), I', L')) 2 [some (.ref 27), some (.int a1), some (.int a2)] [] (KC al) (RC al) I L 0 0 := by
  unfold fX2_readMoreTruths_b2w at hf
  refine j_iload_n hc dX2_readMoreTruths_2 rfl ?_
  refine j_sipush (v := (240 : Int32)) hc dX2_readMoreTruths_3 cs_240 ?_
  refine j_icmp_gt (tgt := 48) hc dX2_readMoreTruths_6 rfl hf (fun hf => ?_) (fun hf => ?_)
  · refine j_iconst (v := (1 : Int32)) hc dX2_readMoreTruths_48 ci_1 ?_
    exact j_zret hc dX2_readMoreTruths_49 rfl rfl (Or.inr rfl) hf
  · refine j_aload_n hc dX2_readMoreTruths_9 rfl ?_
    refine j_bipush (v := (124 : Int32)) hc dX2_readMoreTruths_10 cb_124 ?_
    refine j_callVI (t := 27) (As := [.int (124 : Int32)]) hc dX2_readMoreTruths_12 kw_738 mX2_takes (kC_27 _) clX2 rfl (by omega) (Nat.le_of_ble_eq_true rfl) (Nat.le_of_ble_eq_true rfl) ⟨Nat.le_refl _, Nat.le_refl _⟩ hf (fun v I' L' h => qX2_takes x.2.1 n d (124 : Int32) I L v I' L' h) (fun v1 I1 L1 hf => ?_)
    refine j_if_eq (tgt := 48) hc dX2_readMoreTruths_15 rfl hf (fun hf => ?_) (fun hf => ?_)
    · refine j_iconst (v := (1 : Int32)) hc dX2_readMoreTruths_48 ci_1 ?_
      exact j_zret hc dX2_readMoreTruths_49 rfl rfl (Or.inr rfl) hf
    · refine j_aload_n hc dX2_readMoreTruths_18 rfl ?_
      refine j_iload_n hc dX2_readMoreTruths_19 rfl ?_
      refine j_callVI (t := 27) (As := [.int a1]) hc dX2_readMoreTruths_20 kw_747 mX2_readUnit (kC_27 _) clX2 rfl (by omega) (Nat.le_of_ble_eq_true rfl) (Nat.le_of_ble_eq_true rfl) ⟨Nat.le_refl _, Nat.le_refl _⟩ hf (fun v I' L' h => (hg 1 _ _ _ _ _ _ _ _ _ _ h).2.1 rfl) (fun v2 I2 L2 hf => ?_)
      refine j_if_eq (tgt := 34) hc dX2_readMoreTruths_23 rfl hf (fun hf => ?_) (fun hf => ?_)
      · refine j_iconst (v := (0 : Int32)) hc dX2_readMoreTruths_34 ci_0 ?_
        exact j_zret hc dX2_readMoreTruths_35 rfl rfl (Or.inl rfl) hf
      · refine j_aload_n hc dX2_readMoreTruths_26 rfl ?_
        refine j_iload_n hc dX2_readMoreTruths_27 rfl ?_
        refine j_callVI (t := 27) (As := [.int a1]) hc dX2_readMoreTruths_28 kw_785 mX2_readMoreUnits (kC_27 _) clX2 rfl (by omega) (Nat.le_of_ble_eq_true rfl) (Nat.le_of_ble_eq_true rfl) ⟨Nat.le_refl _, Nat.le_refl _⟩ hf (fun v I' L' h => (hg 2 _ _ _ _ _ _ _ _ _ _ h).2.2.1 rfl) (fun v3 I3 L3 hf => ?_)
        refine j_if_ne (tgt := 36) hc dX2_readMoreTruths_31 rfl hf (fun hf => ?_) (fun hf => ?_)
        · refine j_aload_n hc dX2_readMoreTruths_36 rfl ?_
          refine j_bipush (v := (-19 : Int32)) hc dX2_readMoreTruths_37 cb_m19 ?_
          refine j_callVV (t := 27) (As := [.int (-19 : Int32)]) hc dX2_readMoreTruths_39 kw_768 mX2_put (kC_27 _) clX2 rfl (by omega) (Nat.le_of_ble_eq_true rfl) (Nat.le_of_ble_eq_true rfl) ⟨Nat.le_refl _, Nat.le_refl _⟩ hf (fun I' L' h => qX2_put x.2.1 n d (-19 : Int32) I3 L3 I' L' h) (fun I4 L4 hf => ?_)
          refine j_iinc (w := (1 : Int32)) hc dX2_readMoreTruths_42 rfl ci_1 (Nat.le_of_ble_eq_true rfl) hf (fun v5 hf => ?_)
          refine j_goto (tgt := 2) hc dX2_readMoreTruths_45 rfl ?_
          exact j_sub (hk2 _ _ _ _ hf) (And.intro rfl (And.intro rfl (And.intro rfl (trivial))))
        · refine j_iconst (v := (0 : Int32)) hc dX2_readMoreTruths_34 ci_0 ?_
          exact j_zret hc dX2_readMoreTruths_35 rfl rfl (Or.inl rfl) hf

def fX2_readMoreTruths_b2 (n d : Nat) (g : Nat → Int32 → Int32 → Int32 → Int32 → Int32 → am_I → am_L → Option (Int32 × am_I × am_L)) : Nat → Int32 → Int32 → am_I → am_L → Option (Int32 × am_I × am_L)
  | 0 => fun _ _ _ _ => none
  | m + 1 => fX2_readMoreTruths_b2w n d g (fX2_readMoreTruths_b2 n d g m)

set_option maxRecDepth 100000 in
theorem tX2_readMoreTruths_b2 {x : am_X} {al : Bool} (n d : Nat) (g : Nat → Int32 → Int32 → Int32 → Int32 → Int32 → am_I → am_L → Option (Int32 × am_I × am_L)) (hg : ∀ (w : Nat) (e1 e2 e3 e4 e5 : Int32) (I : am_I) (L : am_L) (v : Int32) (I' : am_I) (L' : am_L), g w e1 e2 e3 e4 e5 I L = some (v, I', L') → (w = 0 → am_C x.2.1 yX2_readCondition cX2_readCondition 2 (some .boolean) (d + 7) [.ref 27, .int e1] (KC al) (RC al) I L (some (.int v)) I' L') ∧ (w = 1 → am_C x.2.1 yX2_readUnit cX2_readUnit 3 (some .boolean) (d + 7) [.ref 27, .int e1] (KC al) (RC al) I L (some (.int v)) I' L') ∧ (w = 2 → am_C x.2.1 yX2_readMoreUnits cX2_readMoreUnits 3 (some .boolean) (d + 7) [.ref 27, .int e1] (KC al) (RC al) I L (some (.int v)) I' L') ∧ (w = 3 → am_C x.2.1 yX2_readMoreTruths cX2_readMoreTruths 3 (some .boolean) (d + 7) [.ref 27, .int e1] (KC al) (RC al) I L (some (.int v)) I' L')) (hc : am_ok x cX2_readMoreTruths yX2_readMoreTruths 3 (some .boolean) (d + 8) 0 0) {r : Int32} {I' : am_I} {L' : am_L} (m : Nat) : ∀ (a1 : Int32) (a2 : Int32) (I : am_I) (L : am_L) (hf : fX2_readMoreTruths_b2 n d g m a1 a2 I L = some (r, I', L')), am_J x (fun S => S = (some (.int r), (KC al), (RC al), I', L')) 2 [some (.ref 27), some (.int a1), some (.int a2)] [] (KC al) (RC al) I L 0 0 := by
  induction m with
  | zero => intro a1 a2 I L hf; exact (Option.some_ne_none _ hf.symm).elim
  | succ m ih => intro a1 a2 I L hf; exact tX2_readMoreTruths_b2w n d g hg hc (fX2_readMoreTruths_b2 n d g m) ih a1 a2 I L hf

set_option maxRecDepth 100000 in
def fX2_readMoreTruths_g (n d : Nat) (g : Nat → Int32 → Int32 → Int32 → Int32 → Int32 → am_I → am_L → Option (Int32 × am_I × am_L)) (a1 : Int32) (I : am_I) (L : am_L) : Option (Int32 × am_I × am_L) :=
  am_lt (0 : Int32) (fun v1 => fX2_readMoreTruths_b2 n d g n a1 v1 I L)

set_option maxRecDepth 100000 in
set_option maxHeartbeats 4000000 in
theorem tX2_readMoreTruths_g {x : am_X} {al : Bool} (n d : Nat) (g : Nat → Int32 → Int32 → Int32 → Int32 → Int32 → am_I → am_L → Option (Int32 × am_I × am_L)) (hg : ∀ (w : Nat) (e1 e2 e3 e4 e5 : Int32) (I : am_I) (L : am_L) (v : Int32) (I' : am_I) (L' : am_L), g w e1 e2 e3 e4 e5 I L = some (v, I', L') → (w = 0 → am_C x.2.1 yX2_readCondition cX2_readCondition 2 (some .boolean) (d + 7) [.ref 27, .int e1] (KC al) (RC al) I L (some (.int v)) I' L') ∧ (w = 1 → am_C x.2.1 yX2_readUnit cX2_readUnit 3 (some .boolean) (d + 7) [.ref 27, .int e1] (KC al) (RC al) I L (some (.int v)) I' L') ∧ (w = 2 → am_C x.2.1 yX2_readMoreUnits cX2_readMoreUnits 3 (some .boolean) (d + 7) [.ref 27, .int e1] (KC al) (RC al) I L (some (.int v)) I' L') ∧ (w = 3 → am_C x.2.1 yX2_readMoreTruths cX2_readMoreTruths 3 (some .boolean) (d + 7) [.ref 27, .int e1] (KC al) (RC al) I L (some (.int v)) I' L')) (hc : am_ok x cX2_readMoreTruths yX2_readMoreTruths 3 (some .boolean) (d + 8) 0 0) {r : Int32} {I' : am_I} {L' : am_L} (a1 : Int32) (I : am_I) (L : am_L) (hf : fX2_readMoreTruths_g n d g a1 I L = some (r, I', L')) : am_J x (fun S => S = (some (.int r), (KC al), (RC al), I', L')) 0 [some (.ref 27), some (.int a1), none] [] (KC al) (RC al) I L 0 0 := by
  unfold fX2_readMoreTruths_g at hf
  refine j_iconst (v := (0 : Int32)) hc dX2_readMoreTruths_0 ci_0 ?_
  refine j_istore_n hc dX2_readMoreTruths_1 (Nat.le_of_ble_eq_true rfl) hf (fun v1 hf => ?_)
  exact j_sub (tX2_readMoreTruths_b2 n d g hg hc n _ _ _ _ hf) (And.intro rfl (And.intro rfl (And.intro rfl (trivial))))

def gX2_readCondition (n : Nat) : Nat → Nat → Int32 → Int32 → Int32 → Int32 → Int32 → am_I → am_L → Option (Int32 × am_I × am_L)
  | 0 => fun _ _ _ _ _ _ _ _ => none
  | d + 1 => fun w e1 e2 e3 e4 e5 I L => match w with
    | 0 => fX2_readCondition_g n d (gX2_readCondition n d) e1 I L
    | 1 => fX2_readUnit_g n d (gX2_readCondition n d) e1 I L
    | 2 => fX2_readMoreUnits_g n d (gX2_readCondition n d) e1 I L
    | 3 => fX2_readMoreTruths_g n d (gX2_readCondition n d) e1 I L
    | _ => none
set_option maxRecDepth 100000 in
set_option maxHeartbeats 4000000 in
theorem cgX2_readCondition (l : Launch) {al : Bool} (n d : Nat) : ∀ (w : Nat) (e1 e2 e3 e4 e5 : Int32) (I : am_I) (L : am_L) (v : Int32) (I' : am_I) (L' : am_L), gX2_readCondition n d w e1 e2 e3 e4 e5 I L = some (v, I', L') → (w = 0 → am_C l yX2_readCondition cX2_readCondition 2 (some .boolean) (d + 7) [.ref 27, .int e1] (KC al) (RC al) I L (some (.int v)) I' L') ∧ (w = 1 → am_C l yX2_readUnit cX2_readUnit 3 (some .boolean) (d + 7) [.ref 27, .int e1] (KC al) (RC al) I L (some (.int v)) I' L') ∧ (w = 2 → am_C l yX2_readMoreUnits cX2_readMoreUnits 3 (some .boolean) (d + 7) [.ref 27, .int e1] (KC al) (RC al) I L (some (.int v)) I' L') ∧ (w = 3 → am_C l yX2_readMoreTruths cX2_readMoreTruths 3 (some .boolean) (d + 7) [.ref 27, .int e1] (KC al) (RC al) I L (some (.int v)) I' L') := by
  induction d with
  | zero => intro w e1 e2 e3 e4 e5 I L v I' L' hf; exact (Option.some_ne_none _ hf.symm).elim
  | succ d ih =>
    intro w e1 e2 e3 e4 e5 I L v I' L' hf
    refine ⟨?_, ?_, ?_, ?_⟩
    · exact fun hw => by
          subst hw
          exact am_intro (plainFor_of_name plX2) (fun _ _ => trivial) (Nat.le_of_ble_eq_true rfl) (fun x hl hc => by subst hl; exact j_sub (tX2_readCondition_g n d (gX2_readCondition n d) ih hc _ _ _ hf) (And.intro rfl (And.intro rfl (trivial))))
    · exact fun hw => by
          subst hw
          exact am_intro (plainFor_of_name plX2) (fun _ _ => trivial) (Nat.le_of_ble_eq_true rfl) (fun x hl hc => by subst hl; exact j_sub (tX2_readUnit_g n d (gX2_readCondition n d) ih hc _ _ _ hf) (And.intro rfl (And.intro rfl (trivial))))
    · exact fun hw => by
          subst hw
          exact am_intro (plainFor_of_name plX2) (fun _ _ => trivial) (Nat.le_of_ble_eq_true rfl) (fun x hl hc => by subst hl; exact j_sub (tX2_readMoreUnits_g n d (gX2_readCondition n d) ih hc _ _ _ hf) (And.intro rfl (And.intro rfl (trivial))))
    · exact fun hw => by
          subst hw
          exact am_intro (plainFor_of_name plX2) (fun _ _ => trivial) (Nat.le_of_ble_eq_true rfl) (fun x hl hc => by subst hl; exact j_sub (tX2_readMoreTruths_g n d (gX2_readCondition n d) ih hc _ _ _ hf) (And.intro rfl (And.intro rfl (trivial))))
def fX2_readCondition (n d : Nat) (a1 : Int32) (I : am_I) (L : am_L) : Option (Int32 × am_I × am_L) := gX2_readCondition n d 0 a1 0 0 0 0 I L
theorem qX2_readCondition (l : Launch) {al : Bool} (n d : Nat) (a1 : Int32) (I : am_I) (L : am_L) (r : Int32) (I' : am_I) (L' : am_L) (hf : fX2_readCondition n d a1 I L = some (r, I', L')) : am_C l yX2_readCondition cX2_readCondition 2 (some .boolean) (d + 7) [.ref 27, .int a1] (KC al) (RC al) I L (some (.int r)) I' L' := by
  exact (cgX2_readCondition l n d _ _ _ _ _ _ _ _ _ _ _ hf).1 rfl
def fX2_readUnit (n d : Nat) (a1 : Int32) (I : am_I) (L : am_L) : Option (Int32 × am_I × am_L) := gX2_readCondition n d 1 a1 0 0 0 0 I L
theorem qX2_readUnit (l : Launch) {al : Bool} (n d : Nat) (a1 : Int32) (I : am_I) (L : am_L) (r : Int32) (I' : am_I) (L' : am_L) (hf : fX2_readUnit n d a1 I L = some (r, I', L')) : am_C l yX2_readUnit cX2_readUnit 3 (some .boolean) (d + 7) [.ref 27, .int a1] (KC al) (RC al) I L (some (.int r)) I' L' := by
  exact (cgX2_readCondition l n d _ _ _ _ _ _ _ _ _ _ _ hf).2.1 rfl
def fX2_readMoreUnits (n d : Nat) (a1 : Int32) (I : am_I) (L : am_L) : Option (Int32 × am_I × am_L) := gX2_readCondition n d 2 a1 0 0 0 0 I L
theorem qX2_readMoreUnits (l : Launch) {al : Bool} (n d : Nat) (a1 : Int32) (I : am_I) (L : am_L) (r : Int32) (I' : am_I) (L' : am_L) (hf : fX2_readMoreUnits n d a1 I L = some (r, I', L')) : am_C l yX2_readMoreUnits cX2_readMoreUnits 3 (some .boolean) (d + 7) [.ref 27, .int a1] (KC al) (RC al) I L (some (.int r)) I' L' := by
  exact (cgX2_readCondition l n d _ _ _ _ _ _ _ _ _ _ _ hf).2.2.1 rfl
def fX2_readMoreTruths (n d : Nat) (a1 : Int32) (I : am_I) (L : am_L) : Option (Int32 × am_I × am_L) := gX2_readCondition n d 3 a1 0 0 0 0 I L
theorem qX2_readMoreTruths (l : Launch) {al : Bool} (n d : Nat) (a1 : Int32) (I : am_I) (L : am_L) (r : Int32) (I' : am_I) (L' : am_L) (hf : fX2_readMoreTruths n d a1 I L = some (r, I', L')) : am_C l yX2_readMoreTruths cX2_readMoreTruths 3 (some .boolean) (d + 7) [.ref 27, .int a1] (KC al) (RC al) I L (some (.int r)) I' L' := by
  exact (cgX2_readCondition l n d _ _ _ _ _ _ _ _ _ _ _ hf).2.2.2 rfl
set_option maxRecDepth 100000 in
def fX2_readAnswer (n d : Nat) (I : am_I) (L : am_L) : Option (Int32 × am_I × am_L) :=
  am_b3 (fX2_takes n d (63 : Int32) I L) (fun v1 I1 L1 => if v1 = 0 then
    (some ((0 : Int32), I1, L1))
    else
    (am_b2 (fX2_put n d (-21 : Int32) I1 L1) (fun I2 L2 => am_b3 (fX2_readSum n d (0 : Int32) I2 L2) (fun v3 I3 L3 => am_bl v3 (some (v3, I3, L3))))))

set_option maxRecDepth 100000 in
set_option maxHeartbeats 4000000 in
theorem tX2_readAnswer {x : am_X} {al : Bool} (n d : Nat) (hc : am_ok x cX2_readAnswer yX2_readAnswer 1 (some .boolean) (d + 6) 0 0) {r : Int32} {I' : am_I} {L' : am_L} (I : am_I) (L : am_L) (hf : fX2_readAnswer n d I L = some (r, I', L')) : am_J x (fun S => S = (some (.int r), (KC al), (RC al), I', L')) 0 [some (.ref 27)] [] (KC al) (RC al) I L 0 0 := by
  unfold fX2_readAnswer at hf
  refine j_aload_n hc dX2_readAnswer_0 rfl ?_
  refine j_bipush (v := (63 : Int32)) hc dX2_readAnswer_1 cb_63 ?_
  refine j_callVI (t := 27) (As := [.int (63 : Int32)]) hc dX2_readAnswer_3 kw_738 mX2_takes (kC_27 _) clX2 rfl (by omega) (Nat.le_of_ble_eq_true rfl) (Nat.le_of_ble_eq_true rfl) ⟨Nat.le_refl _, Nat.le_refl _⟩ hf (fun v I' L' h => qX2_takes x.2.1 n d (63 : Int32) I L v I' L' h) (fun v1 I1 L1 hf => ?_)
  refine j_if_ne (tgt := 11) hc dX2_readAnswer_6 rfl hf (fun hf => ?_) (fun hf => ?_)
  · refine j_aload_n hc dX2_readAnswer_11 rfl ?_
    refine j_bipush (v := (-21 : Int32)) hc dX2_readAnswer_12 cb_m21 ?_
    refine j_callVV (t := 27) (As := [.int (-21 : Int32)]) hc dX2_readAnswer_14 kw_768 mX2_put (kC_27 _) clX2 rfl (by omega) (Nat.le_of_ble_eq_true rfl) (Nat.le_of_ble_eq_true rfl) ⟨Nat.le_refl _, Nat.le_refl _⟩ hf (fun I' L' h => qX2_put x.2.1 n d (-21 : Int32) I1 L1 I' L' h) (fun I2 L2 hf => ?_)
    refine j_aload_n hc dX2_readAnswer_17 rfl ?_
    refine j_iconst (v := (0 : Int32)) hc dX2_readAnswer_18 ci_0 ?_
    refine j_callVI (t := 27) (As := [.int (0 : Int32)]) hc dX2_readAnswer_19 kw_751 mX2_readSum (kC_27 _) clX2 rfl (by omega) (Nat.le_of_ble_eq_true rfl) (Nat.le_of_ble_eq_true rfl) ⟨Nat.le_refl _, Nat.le_refl _⟩ hf (fun v I' L' h => qX2_readSum x.2.1 n d (0 : Int32) I2 L2 v I' L' h) (fun v3 I3 L3 hf => ?_)
    exact j_zreturn hc dX2_readAnswer_22 rfl rfl hf
  · refine j_iconst (v := (0 : Int32)) hc dX2_readAnswer_9 ci_0 ?_
    exact j_zret hc dX2_readAnswer_10 rfl rfl (Or.inl rfl) hf

set_option maxRecDepth 100000 in
theorem qX2_readAnswer (l : Launch) {al : Bool} (n d : Nat) (I : am_I) (L : am_L) (r : Int32) (I' : am_I) (L' : am_L) (hf : fX2_readAnswer n d I L = some (r, I', L')) : am_C l yX2_readAnswer cX2_readAnswer 1 (some .boolean) (d + 6) [.ref 27] (KC al) (RC al) I L (some (.int r)) I' L' := by
  exact am_intro (plainFor_of_name plX2) (fun _ _ => trivial) (Nat.le_of_ble_eq_true rfl) (fun x hl hc => by subst hl; exact j_sub (tX2_readAnswer n d hc  _ _ hf) (And.intro rfl (trivial)))
set_option maxRecDepth 100000 in
def fX2_readClause_b138 (n d : Nat) (a3 : Int32) (I : am_I) (L : am_L) : Option (Int32 × am_I × am_L) :=
  am_b2 (fX2_put n d (-22 : Int32) I L) (fun I1 L1 => am_bl a3 (some (a3, I1, L1)))

set_option maxRecDepth 100000 in
set_option maxHeartbeats 4000000 in
theorem tX2_readClause_b138 {x : am_X} {al : Bool} (n d : Nat) (hc : am_ok x cX2_readClause yX2_readClause 4 (some .boolean) (d + 8) 0 0) {r : Int32} {I' : am_I} {L' : am_L} (a3 : Int32) (I : am_I) (L : am_L) (hf : fX2_readClause_b138 n d a3 I L = some (r, I', L')) : am_J x (fun S => S = (some (.int r), (KC al), (RC al), I', L')) 138 [some (.ref 27), none, none, some (.int a3)] [] (KC al) (RC al) I L 0 0 := by
  unfold fX2_readClause_b138 at hf
  refine j_aload_n hc dX2_readClause_138 rfl ?_
  refine j_bipush (v := (-22 : Int32)) hc dX2_readClause_139 cb_m22 ?_
  refine j_callVV (t := 27) (As := [.int (-22 : Int32)]) hc dX2_readClause_141 kw_768 mX2_put (kC_27 _) clX2 rfl (by omega) (Nat.le_of_ble_eq_true rfl) (Nat.le_of_ble_eq_true rfl) ⟨Nat.le_refl _, Nat.le_refl _⟩ hf (fun I' L' h => qX2_put x.2.1 n d (-22 : Int32) I L I' L' h) (fun I1 L1 hf => ?_)
  refine j_iload_n hc dX2_readClause_144 rfl ?_
  exact j_zreturn hc dX2_readClause_145 rfl rfl hf

set_option maxRecDepth 100000 in
def fX2_readClause_b125 (n d : Nat) (a2 : Int32) (a3 : Int32) (I : am_I) (L : am_L) : Option (Int32 × am_I × am_L) :=
  if a3 = 0 then
    (fX2_readClause_b138 n d a3 I L)
    else
    (if a2 = 0 then
      (fX2_readClause_b138 n d a3 I L)
      else
      (am_b3 (fX2_readAnswer n d I L) (fun v1 I1 L1 => am_lt v1 (fun v2 => fX2_readClause_b138 n d v2 I1 L1))))

set_option maxRecDepth 100000 in
set_option maxHeartbeats 4000000 in
theorem tX2_readClause_b125 {x : am_X} {al : Bool} (n d : Nat) (hc : am_ok x cX2_readClause yX2_readClause 4 (some .boolean) (d + 8) 0 0) {r : Int32} {I' : am_I} {L' : am_L} (a2 : Int32) (a3 : Int32) (I : am_I) (L : am_L) (hf : fX2_readClause_b125 n d a2 a3 I L = some (r, I', L')) : am_J x (fun S => S = (some (.int r), (KC al), (RC al), I', L')) 125 [some (.ref 27), none, some (.int a2), some (.int a3)] [] (KC al) (RC al) I L 0 0 := by
  unfold fX2_readClause_b125 at hf
  refine j_iload_n hc dX2_readClause_125 rfl ?_
  refine j_if_eq (tgt := 138) hc dX2_readClause_126 rfl hf (fun hf => ?_) (fun hf => ?_)
  · exact j_sub (tX2_readClause_b138 n d hc _ _ _ hf) (And.intro rfl (And.intro rfl (trivial)))
  · refine j_iload_n hc dX2_readClause_129 rfl ?_
    refine j_if_eq (tgt := 138) hc dX2_readClause_130 rfl hf (fun hf => ?_) (fun hf => ?_)
    · exact j_sub (tX2_readClause_b138 n d hc _ _ _ hf) (And.intro rfl (And.intro rfl (trivial)))
    · refine j_aload_n hc dX2_readClause_133 rfl ?_
      refine j_callVI (t := 27) (As := []) hc dX2_readClause_134 kw_793 mX2_readAnswer (kC_27 _) clX2 rfl (by omega) (Nat.le_of_ble_eq_true rfl) (Nat.le_of_ble_eq_true rfl) ⟨Nat.le_refl _, Nat.le_refl _⟩ hf (fun v I' L' h => qX2_readAnswer x.2.1 n d I L v I' L' h) (fun v1 I1 L1 hf => ?_)
      refine j_istore_n hc dX2_readClause_137 (Nat.le_of_ble_eq_true rfl) hf (fun v2 hf => ?_)
      exact j_sub (tX2_readClause_b138 n d hc _ _ _ hf) (And.intro rfl (And.intro rfl (trivial)))

set_option maxRecDepth 100000 in
def fX2_readClause_b124 (n d : Nat) (s0 : Int32) (a2 : Int32) (I : am_I) (L : am_L) : Option (Int32 × am_I × am_L) :=
  am_lt s0 (fun v1 => fX2_readClause_b125 n d a2 v1 I L)

set_option maxRecDepth 100000 in
set_option maxHeartbeats 4000000 in
theorem tX2_readClause_b124 {x : am_X} {al : Bool} (n d : Nat) (hc : am_ok x cX2_readClause yX2_readClause 4 (some .boolean) (d + 8) 0 0) {r : Int32} {I' : am_I} {L' : am_L} (s0 : Int32) (a2 : Int32) (I : am_I) (L : am_L) (hf : fX2_readClause_b124 n d s0 a2 I L = some (r, I', L')) : am_J x (fun S => S = (some (.int r), (KC al), (RC al), I', L')) 124 [some (.ref 27), none, some (.int a2), none] [.int s0] (KC al) (RC al) I L 0 0 := by
  unfold fX2_readClause_b124 at hf
  refine j_istore_n hc dX2_readClause_124 (Nat.le_of_ble_eq_true rfl) hf (fun v1 hf => ?_)
  exact j_sub (tX2_readClause_b125 n d hc _ _ _ _ hf) (And.intro rfl (And.intro rfl (And.intro rfl (trivial))))

set_option maxRecDepth 100000 in
def fX2_readClause_b123 (n d : Nat) (a2 : Int32) (I : am_I) (L : am_L) : Option (Int32 × am_I × am_L) :=
  fX2_readClause_b124 n d (0 : Int32) a2 I L

set_option maxRecDepth 100000 in
set_option maxHeartbeats 4000000 in
theorem tX2_readClause_b123 {x : am_X} {al : Bool} (n d : Nat) (hc : am_ok x cX2_readClause yX2_readClause 4 (some .boolean) (d + 8) 0 0) {r : Int32} {I' : am_I} {L' : am_L} (a2 : Int32) (I : am_I) (L : am_L) (hf : fX2_readClause_b123 n d a2 I L = some (r, I', L')) : am_J x (fun S => S = (some (.int r), (KC al), (RC al), I', L')) 123 [some (.ref 27), none, some (.int a2), none] [] (KC al) (RC al) I L 0 0 := by
  unfold fX2_readClause_b123 at hf
  refine j_iconst (v := (0 : Int32)) hc dX2_readClause_123 ci_0 ?_
  exact j_sub (tX2_readClause_b124 n d hc _ _ _ _ hf) (And.intro rfl (And.intro rfl (trivial)))

set_option maxRecDepth 100000 in
def fX2_readClause_b67 (n d : Nat) (s0 : Int32) (a2 : Int32) (I : am_I) (L : am_L) : Option (Int32 × am_I × am_L) :=
  am_lt s0 (fun v1 => if v1 = 0 then
    (fX2_readClause_b125 n d a2 v1 I L)
    else
    (if a2 = 0 then
      (am_b3 (fX8_at n d (I 27 3) I L) (fun v2 I2 L2 => am_b3 (fX2_comparisonOf n d v2 I2 L2) (fun v3 I3 L3 => if v3 = 0 then
        (fX2_readClause_b125 n d a2 v1 I3 L3)
        else
        (am_lt (1 : Int32) (fun v4 => am_b3 (fX2_readComparison n d (0 : Int32) I3 L3) (fun v5 I5 L5 => if v5 = 0 then
          (fX2_readClause_b123 n d v4 I5 L5)
          else
          (am_b3 (fX2_readMoreUnits n d (0 : Int32) I5 L5) (fun v6 I6 L6 => if v6 = 0 then
            (fX2_readClause_b123 n d v4 I6 L6)
            else
            (am_b3 (fX2_readMoreTruths n d (0 : Int32) I6 L6) (fun v7 I7 L7 => if v7 = 0 then
              (fX2_readClause_b123 n d v4 I7 L7)
              else
              (fX2_readClause_b124 n d (1 : Int32) v4 I7 L7)))))))))))
      else
      (fX2_readClause_b125 n d a2 v1 I L)))

set_option maxRecDepth 100000 in
set_option maxHeartbeats 4000000 in
theorem tX2_readClause_b67 {x : am_X} {al : Bool} (n d : Nat) (hc : am_ok x cX2_readClause yX2_readClause 4 (some .boolean) (d + 8) 0 0) {r : Int32} {I' : am_I} {L' : am_L} (s0 : Int32) (a2 : Int32) (I : am_I) (L : am_L) (hf : fX2_readClause_b67 n d s0 a2 I L = some (r, I', L')) : am_J x (fun S => S = (some (.int r), (KC al), (RC al), I', L')) 67 [some (.ref 27), none, some (.int a2), none] [.int s0] (KC al) (RC al) I L 0 0 := by
  unfold fX2_readClause_b67 at hf
  refine j_istore_n hc dX2_readClause_67 (Nat.le_of_ble_eq_true rfl) hf (fun v1 hf => ?_)
  refine j_iload_n hc dX2_readClause_68 rfl ?_
  refine j_if_eq (tgt := 125) hc dX2_readClause_69 rfl hf (fun hf => ?_) (fun hf => ?_)
  · exact j_sub (tX2_readClause_b125 n d hc _ _ _ _ hf) (And.intro rfl (And.intro rfl (And.intro rfl (trivial))))
  · refine j_iload_n hc dX2_readClause_72 rfl ?_
    refine j_if_ne (tgt := 125) hc dX2_readClause_73 rfl hf (fun hf => ?_) (fun hf => ?_)
    · exact j_sub (tX2_readClause_b125 n d hc _ _ _ _ hf) (And.intro rfl (And.intro rfl (And.intro rfl (trivial))))
    · refine j_aload_n hc dX2_readClause_76 rfl ?_
      refine j_getR (u := 1) hc dX2_readClause_77 (fgC_X2_24_27 _) (rC_27_0 _) ?_
      refine j_aload_n hc dX2_readClause_80 rfl ?_
      refine j_getI hc dX2_readClause_81 (fgC_X2_21_27 _) ?_
      refine j_callVI (t := 1) (As := [.int (I 27 3)]) hc dX2_readClause_84 kw_742 mX8_at (kC_1 _) clX8 rfl (by omega) (Nat.le_of_ble_eq_true rfl) (Nat.le_of_ble_eq_true rfl) ⟨Nat.le_refl _, Nat.le_refl _⟩ hf (fun v I' L' h => qX8_at x.2.1 n d (I 27 3) I L v I' L' h) (fun v2 I2 L2 hf => ?_)
      refine j_callSI (As := [.int v2]) hc dX2_readClause_87 kw_782 mX2_comparisonOf  rfl (by omega) (Nat.le_of_ble_eq_true rfl) (Nat.le_of_ble_eq_true rfl) ⟨Nat.le_refl _, Nat.le_refl _⟩ hf (fun v I' L' h => qX2_comparisonOf x.2.1 n d v2 I2 L2 v I' L' h) (fun v3 I3 L3 hf => ?_)
      refine j_if_eq (tgt := 125) hc dX2_readClause_90 rfl hf (fun hf => ?_) (fun hf => ?_)
      · exact j_sub (tX2_readClause_b125 n d hc _ _ _ _ hf) (And.intro rfl (And.intro rfl (And.intro rfl (trivial))))
      · refine j_iconst (v := (1 : Int32)) hc dX2_readClause_93 ci_1 ?_
        refine j_istore_n hc dX2_readClause_94 (Nat.le_of_ble_eq_true rfl) hf (fun v4 hf => ?_)
        refine j_aload_n hc dX2_readClause_95 rfl ?_
        refine j_iconst (v := (0 : Int32)) hc dX2_readClause_96 ci_0 ?_
        refine j_callVI (t := 27) (As := [.int (0 : Int32)]) hc dX2_readClause_97 kw_778 mX2_readComparison (kC_27 _) clX2 rfl (by omega) (Nat.le_of_ble_eq_true rfl) (Nat.le_of_ble_eq_true rfl) ⟨Nat.le_refl _, Nat.le_refl _⟩ hf (fun v I' L' h => qX2_readComparison x.2.1 n d (0 : Int32) I3 L3 v I' L' h) (fun v5 I5 L5 hf => ?_)
        refine j_if_eq (tgt := 123) hc dX2_readClause_100 rfl hf (fun hf => ?_) (fun hf => ?_)
        · exact j_sub (tX2_readClause_b123 n d hc _ _ _ hf) (And.intro rfl (And.intro rfl (trivial)))
        · refine j_aload_n hc dX2_readClause_103 rfl ?_
          refine j_iconst (v := (0 : Int32)) hc dX2_readClause_104 ci_0 ?_
          refine j_callVI (t := 27) (As := [.int (0 : Int32)]) hc dX2_readClause_105 kw_785 mX2_readMoreUnits (kC_27 _) clX2 rfl (by omega) (Nat.le_of_ble_eq_true rfl) (Nat.le_of_ble_eq_true rfl) ⟨Nat.le_refl _, Nat.le_refl _⟩ hf (fun v I' L' h => qX2_readMoreUnits x.2.1 n d (0 : Int32) I5 L5 v I' L' h) (fun v6 I6 L6 hf => ?_)
          refine j_if_eq (tgt := 123) hc dX2_readClause_108 rfl hf (fun hf => ?_) (fun hf => ?_)
          · exact j_sub (tX2_readClause_b123 n d hc _ _ _ hf) (And.intro rfl (And.intro rfl (trivial)))
          · refine j_aload_n hc dX2_readClause_111 rfl ?_
            refine j_iconst (v := (0 : Int32)) hc dX2_readClause_112 ci_0 ?_
            refine j_callVI (t := 27) (As := [.int (0 : Int32)]) hc dX2_readClause_113 kw_789 mX2_readMoreTruths (kC_27 _) clX2 rfl (by omega) (Nat.le_of_ble_eq_true rfl) (Nat.le_of_ble_eq_true rfl) ⟨Nat.le_refl _, Nat.le_refl _⟩ hf (fun v I' L' h => qX2_readMoreTruths x.2.1 n d (0 : Int32) I6 L6 v I' L' h) (fun v7 I7 L7 hf => ?_)
            refine j_if_eq (tgt := 123) hc dX2_readClause_116 rfl hf (fun hf => ?_) (fun hf => ?_)
            · exact j_sub (tX2_readClause_b123 n d hc _ _ _ hf) (And.intro rfl (And.intro rfl (trivial)))
            · refine j_iconst (v := (1 : Int32)) hc dX2_readClause_119 ci_1 ?_
              refine j_goto (tgt := 124) hc dX2_readClause_120 rfl ?_
              exact j_sub (tX2_readClause_b124 n d hc _ _ _ _ hf) (And.intro rfl (And.intro rfl (trivial)))

set_option maxRecDepth 100000 in
def fX2_readClause_b49 (n d : Nat) (s0 : Int32) (I : am_I) (L : am_L) : Option (Int32 × am_I × am_L) :=
  am_lt s0 (fun v1 => if v1 = 0 then
    (am_b3 (fX2_readSum n d (0 : Int32) I L) (fun v2 I2 L2 => fX2_readClause_b67 n d v2 v1 I2 L2))
    else
    (am_b3 (fX2_readCondition n d (0 : Int32) I L) (fun v3 I3 L3 => fX2_readClause_b67 n d v3 v1 I3 L3)))

set_option maxRecDepth 100000 in
set_option maxHeartbeats 4000000 in
theorem tX2_readClause_b49 {x : am_X} {al : Bool} (n d : Nat) (hc : am_ok x cX2_readClause yX2_readClause 4 (some .boolean) (d + 8) 0 0) {r : Int32} {I' : am_I} {L' : am_L} (s0 : Int32) (I : am_I) (L : am_L) (hf : fX2_readClause_b49 n d s0 I L = some (r, I', L')) : am_J x (fun S => S = (some (.int r), (KC al), (RC al), I', L')) 49 [some (.ref 27), none, none, none] [.int s0] (KC al) (RC al) I L 0 0 := by
  unfold fX2_readClause_b49 at hf
  refine j_istore_n hc dX2_readClause_49 (Nat.le_of_ble_eq_true rfl) hf (fun v1 hf => ?_)
  refine j_iload_n hc dX2_readClause_50 rfl ?_
  refine j_if_eq (tgt := 62) hc dX2_readClause_51 rfl hf (fun hf => ?_) (fun hf => ?_)
  · refine j_aload_n hc dX2_readClause_62 rfl ?_
    refine j_iconst (v := (0 : Int32)) hc dX2_readClause_63 ci_0 ?_
    refine j_callVI (t := 27) (As := [.int (0 : Int32)]) hc dX2_readClause_64 kw_751 mX2_readSum (kC_27 _) clX2 rfl (by omega) (Nat.le_of_ble_eq_true rfl) (Nat.le_of_ble_eq_true rfl) ⟨Nat.le_refl _, Nat.le_refl _⟩ hf (fun v I' L' h => qX2_readSum x.2.1 n d (0 : Int32) I L v I' L' h) (fun v2 I2 L2 hf => ?_)
    exact j_sub (tX2_readClause_b67 n d hc _ _ _ _ hf) (And.intro rfl (And.intro rfl (trivial)))
  · refine j_aload_n hc dX2_readClause_54 rfl ?_
    refine j_iconst (v := (0 : Int32)) hc dX2_readClause_55 ci_0 ?_
    refine j_callVI (t := 27) (As := [.int (0 : Int32)]) hc dX2_readClause_56 kw_743 mX2_readCondition (kC_27 _) clX2 rfl (by omega) (Nat.le_of_ble_eq_true rfl) (Nat.le_of_ble_eq_true rfl) ⟨Nat.le_refl _, Nat.le_refl _⟩ hf (fun v I' L' h => qX2_readCondition x.2.1 n d (0 : Int32) I L v I' L' h) (fun v3 I3 L3 hf => ?_)
    refine j_goto (tgt := 67) hc dX2_readClause_59 rfl ?_
    exact j_sub (tX2_readClause_b67 n d hc _ _ _ _ hf) (And.intro rfl (And.intro rfl (trivial)))

set_option maxRecDepth 100000 in
def fX2_readClause_b44 (n d : Nat) (I : am_I) (L : am_L) : Option (Int32 × am_I × am_L) :=
  fX2_readClause_b49 n d (1 : Int32) I L

set_option maxRecDepth 100000 in
set_option maxHeartbeats 4000000 in
theorem tX2_readClause_b44 {x : am_X} {al : Bool} (n d : Nat) (hc : am_ok x cX2_readClause yX2_readClause 4 (some .boolean) (d + 8) 0 0) {r : Int32} {I' : am_I} {L' : am_L} (I : am_I) (L : am_L) (hf : fX2_readClause_b44 n d I L = some (r, I', L')) : am_J x (fun S => S = (some (.int r), (KC al), (RC al), I', L')) 44 [some (.ref 27), none, none, none] [] (KC al) (RC al) I L 0 0 := by
  unfold fX2_readClause_b44 at hf
  refine j_iconst (v := (1 : Int32)) hc dX2_readClause_44 ci_1 ?_
  refine j_goto (tgt := 49) hc dX2_readClause_45 rfl ?_
  exact j_sub (tX2_readClause_b49 n d hc _ _ _ hf) (And.intro rfl (trivial))

set_option maxRecDepth 100000 in
def fX2_readClause (n d : Nat) (I : am_I) (L : am_L) : Option (Int32 × am_I × am_L) :=
  am_b3 (fX2_takes n d (121 : Int32) I L) (fun v1 I1 L1 => if v1 = 0 then
    (some ((0 : Int32), I1, L1))
    else
    (am_b3 (fX2_takes n d (58 : Int32) I1 L1) (fun v2 I2 L2 => if v2 = 0 then
      (some ((0 : Int32), I2, L2))
      else
      (am_b3 (fX8_at n d (I2 27 3) I2 L2) (fun v3 I3 L3 => am_lt v3 (fun v4 => if v4 = (33 : Int32) then
        (fX2_readClause_b44 n d I3 L3)
        else
        (if v4 = (40 : Int32) then
          (fX2_readClause_b44 n d I3 L3)
          else
          (fX2_readClause_b49 n d (0 : Int32) I3 L3))))))))

set_option maxRecDepth 100000 in
set_option maxHeartbeats 4000000 in
theorem tX2_readClause {x : am_X} {al : Bool} (n d : Nat) (hc : am_ok x cX2_readClause yX2_readClause 4 (some .boolean) (d + 8) 0 0) {r : Int32} {I' : am_I} {L' : am_L} (I : am_I) (L : am_L) (hf : fX2_readClause n d I L = some (r, I', L')) : am_J x (fun S => S = (some (.int r), (KC al), (RC al), I', L')) 0 [some (.ref 27), none, none, none] [] (KC al) (RC al) I L 0 0 := by
  unfold fX2_readClause at hf
  refine j_aload_n hc dX2_readClause_0 rfl ?_
  refine j_bipush (v := (121 : Int32)) hc dX2_readClause_1 cb_121 ?_
  refine j_callVI (t := 27) (As := [.int (121 : Int32)]) hc dX2_readClause_3 kw_738 mX2_takes (kC_27 _) clX2 rfl (by omega) (Nat.le_of_ble_eq_true rfl) (Nat.le_of_ble_eq_true rfl) ⟨Nat.le_refl _, Nat.le_refl _⟩ hf (fun v I' L' h => qX2_takes x.2.1 n d (121 : Int32) I L v I' L' h) (fun v1 I1 L1 hf => ?_)
  refine j_if_eq (tgt := 18) hc dX2_readClause_6 rfl hf (fun hf => ?_) (fun hf => ?_)
  · refine j_iconst (v := (0 : Int32)) hc dX2_readClause_18 ci_0 ?_
    exact j_zret hc dX2_readClause_19 rfl rfl (Or.inl rfl) hf
  · refine j_aload_n hc dX2_readClause_9 rfl ?_
    refine j_bipush (v := (58 : Int32)) hc dX2_readClause_10 cb_58 ?_
    refine j_callVI (t := 27) (As := [.int (58 : Int32)]) hc dX2_readClause_12 kw_738 mX2_takes (kC_27 _) clX2 rfl (by omega) (Nat.le_of_ble_eq_true rfl) (Nat.le_of_ble_eq_true rfl) ⟨Nat.le_refl _, Nat.le_refl _⟩ hf (fun v I' L' h => qX2_takes x.2.1 n d (58 : Int32) I1 L1 v I' L' h) (fun v2 I2 L2 hf => ?_)
    refine j_if_ne (tgt := 20) hc dX2_readClause_15 rfl hf (fun hf => ?_) (fun hf => ?_)
    · refine j_aload_n hc dX2_readClause_20 rfl ?_
      refine j_getR (u := 1) hc dX2_readClause_21 (fgC_X2_24_27 _) (rC_27_0 _) ?_
      refine j_aload_n hc dX2_readClause_24 rfl ?_
      refine j_getI hc dX2_readClause_25 (fgC_X2_21_27 _) ?_
      refine j_callVI (t := 1) (As := [.int (I2 27 3)]) hc dX2_readClause_28 kw_742 mX8_at (kC_1 _) clX8 rfl (by omega) (Nat.le_of_ble_eq_true rfl) (Nat.le_of_ble_eq_true rfl) ⟨Nat.le_refl _, Nat.le_refl _⟩ hf (fun v I' L' h => qX8_at x.2.1 n d (I2 27 3) I2 L2 v I' L' h) (fun v3 I3 L3 hf => ?_)
      refine j_istore_n hc dX2_readClause_31 (Nat.le_of_ble_eq_true rfl) hf (fun v4 hf => ?_)
      refine j_iload_n hc dX2_readClause_32 rfl ?_
      refine j_bipush (v := (33 : Int32)) hc dX2_readClause_33 cb_33 ?_
      refine j_icmp_eq (tgt := 44) hc dX2_readClause_35 rfl hf (fun hf => ?_) (fun hf => ?_)
      · exact j_sub (tX2_readClause_b44 n d hc _ _ hf) (And.intro rfl (trivial))
      · refine j_iload_n hc dX2_readClause_38 rfl ?_
        refine j_bipush (v := (40 : Int32)) hc dX2_readClause_39 cb_40 ?_
        refine j_icmp_ne (tgt := 48) hc dX2_readClause_41 rfl hf (fun hf => ?_) (fun hf => ?_)
        · refine j_iconst (v := (0 : Int32)) hc dX2_readClause_48 ci_0 ?_
          exact j_sub (tX2_readClause_b49 n d hc _ _ _ hf) (And.intro rfl (trivial))
        · exact j_sub (tX2_readClause_b44 n d hc _ _ hf) (And.intro rfl (trivial))
    · refine j_iconst (v := (0 : Int32)) hc dX2_readClause_18 ci_0 ?_
      exact j_zret hc dX2_readClause_19 rfl rfl (Or.inl rfl) hf

set_option maxRecDepth 100000 in
theorem qX2_readClause (l : Launch) {al : Bool} (n d : Nat) (I : am_I) (L : am_L) (r : Int32) (I' : am_I) (L' : am_L) (hf : fX2_readClause n d I L = some (r, I', L')) : am_C l yX2_readClause cX2_readClause 4 (some .boolean) (d + 8) [.ref 27] (KC al) (RC al) I L (some (.int r)) I' L' := by
  exact am_intro (plainFor_of_name plX2) (fun _ _ => trivial) (Nat.le_of_ble_eq_true rfl) (fun x hl hc => by subst hl; exact j_sub (tX2_readClause n d hc  _ _ hf) (And.intro rfl (trivial)))
set_option maxRecDepth 100000 in
def fX2_read_b19w (n d : Nat) (k19 : Int32 → am_I → am_L → Option (Int32 × am_I × am_L)) (a1 : Int32) (I : am_I) (L : am_L) : Option (Int32 × am_I × am_L) :=
  if (240 : Int32) < a1 then
    (some ((I 27 3), I, L))
    else
    (am_b3 (fX2_readClause n d I L) (fun v1 I1 L1 => if v1 = 0 then
      (some ((I1 27 3), I1, L1))
      else
      (if (I1 27 3) < (I1 1 1) then
        (am_b3 (fX2_takes n d (59 : Int32) I1 L1) (fun v2 I2 L2 => if v2 = 0 then
          (some ((I2 27 3), I2, L2))
          else
          (am_lt (a1 + (1 : Int32)) (fun v3 => k19 v3 I2 L2))))
        else
        (some ((-1 : Int32), I1, L1)))))

set_option maxRecDepth 100000 in
set_option maxHeartbeats 4000000 in
theorem tX2_read_b19w {x : am_X} {al : Bool} (n d : Nat) (hc : am_ok x cX2_read yX2_read 2 (some .int) (d + 9) 0 0) {r : Int32} {I' : am_I} {L' : am_L} (k19 : Int32 → am_I → am_L → Option (Int32 × am_I × am_L)) (hk19 : ∀ (a1 : Int32) (I : am_I) (L : am_L), k19 a1 I L = some (r, I', L') → am_J x (fun S => S = (some (.int r), (KC al), (RC al), I', L')) 19 [some (.ref 27), some (.int a1)] [] (KC al) (RC al) I L 0 0) (a1 : Int32) (I : am_I) (L : am_L) (hf : fX2_read_b19w n d k19 a1 I L = some (r, I', L')) : am_J x (fun S => S = (some (.int r), (KC al), (RC al), I', L')) 19 [some (.ref 27), some (.int a1)] [] (KC al) (RC al) I L 0 0 := by
  unfold fX2_read_b19w at hf
  refine j_iload_n hc dX2_read_19 rfl ?_
  refine j_sipush (v := (240 : Int32)) hc dX2_read_20 cs_240 ?_
  refine j_icmp_gt (tgt := 74) hc dX2_read_23 rfl hf (fun hf => ?_) (fun hf => ?_)
  · refine j_aload_n hc dX2_read_74 rfl ?_
    refine j_getI hc dX2_read_75 (fgC_X2_21_27 _) ?_
    exact j_ireturn hc dX2_read_78 rfl rfl hf
  · refine j_aload_n hc dX2_read_26 rfl ?_
    refine j_callVI (t := 27) (As := []) hc dX2_read_27 kw_734 mX2_readClause (kC_27 _) clX2 rfl (by omega) (Nat.le_of_ble_eq_true rfl) (Nat.le_of_ble_eq_true rfl) ⟨Nat.le_refl _, Nat.le_refl _⟩ hf (fun v I' L' h => qX2_readClause x.2.1 n d I L v I' L' h) (fun v1 I1 L1 hf => ?_)
    refine j_if_ne (tgt := 38) hc dX2_read_30 rfl hf (fun hf => ?_) (fun hf => ?_)
    · refine j_aload_n hc dX2_read_38 rfl ?_
      refine j_getI hc dX2_read_39 (fgC_X2_21_27 _) ?_
      refine j_aload_n hc dX2_read_42 rfl ?_
      refine j_getR (u := 1) hc dX2_read_43 (fgC_X2_24_27 _) (rC_27_0 _) ?_
      refine j_getI hc dX2_read_46 (fgC_X2_38_1 _) ?_
      refine j_icmp_lt (tgt := 54) hc dX2_read_49 rfl hf (fun hf => ?_) (fun hf => ?_)
      · refine j_aload_n hc dX2_read_54 rfl ?_
        refine j_bipush (v := (59 : Int32)) hc dX2_read_55 cb_59 ?_
        refine j_callVI (t := 27) (As := [.int (59 : Int32)]) hc dX2_read_57 kw_738 mX2_takes (kC_27 _) clX2 rfl (by omega) (Nat.le_of_ble_eq_true rfl) (Nat.le_of_ble_eq_true rfl) ⟨Nat.le_refl _, Nat.le_refl _⟩ hf (fun v I' L' h => qX2_takes x.2.1 n d (59 : Int32) I1 L1 v I' L' h) (fun v2 I2 L2 hf => ?_)
        refine j_if_ne (tgt := 68) hc dX2_read_60 rfl hf (fun hf => ?_) (fun hf => ?_)
        · refine j_iinc (w := (1 : Int32)) hc dX2_read_68 rfl ci_1 (Nat.le_of_ble_eq_true rfl) hf (fun v3 hf => ?_)
          refine j_goto (tgt := 19) hc dX2_read_71 rfl ?_
          exact j_sub (hk19 _ _ _ hf) (And.intro rfl (And.intro rfl (trivial)))
        · refine j_aload_n hc dX2_read_63 rfl ?_
          refine j_getI hc dX2_read_64 (fgC_X2_21_27 _) ?_
          exact j_ireturn hc dX2_read_67 rfl rfl hf
      · refine j_iconst (v := (-1 : Int32)) hc dX2_read_52 ci_m1 ?_
        exact j_ireturn hc dX2_read_53 rfl rfl hf
    · refine j_aload_n hc dX2_read_33 rfl ?_
      refine j_getI hc dX2_read_34 (fgC_X2_21_27 _) ?_
      exact j_ireturn hc dX2_read_37 rfl rfl hf

def fX2_read_b19 (n d : Nat) : Nat → Int32 → am_I → am_L → Option (Int32 × am_I × am_L)
  | 0 => fun _ _ _ => none
  | m + 1 => fX2_read_b19w n d  (fX2_read_b19 n d m)

set_option maxRecDepth 100000 in
theorem tX2_read_b19 {x : am_X} {al : Bool} (n d : Nat) (hc : am_ok x cX2_read yX2_read 2 (some .int) (d + 9) 0 0) {r : Int32} {I' : am_I} {L' : am_L} (m : Nat) : ∀ (a1 : Int32) (I : am_I) (L : am_L) (hf : fX2_read_b19 n d m a1 I L = some (r, I', L')), am_J x (fun S => S = (some (.int r), (KC al), (RC al), I', L')) 19 [some (.ref 27), some (.int a1)] [] (KC al) (RC al) I L 0 0 := by
  induction m with
  | zero => intro a1 I L hf; exact (Option.some_ne_none _ hf.symm).elim
  | succ m ih => intro a1 I L hf; exact tX2_read_b19w n d hc (fX2_read_b19 n d m) ih a1 I L hf

set_option maxRecDepth 100000 in
def fX2_read (n d : Nat) (I : am_I) (L : am_L) : Option (Int32 × am_I × am_L) :=
  am_lt (am_up I 27 2 (0 : Int32)) (fun I1 => am_b3 (fX8_behindBlanks n d (0 : Int32) I1 L) (fun v2 I2 L2 => am_lt (am_up I2 27 3 v2) (fun I3 => am_lt (0 : Int32) (fun v4 => fX2_read_b19 n d n v4 I3 L2))))

set_option maxRecDepth 100000 in
set_option maxHeartbeats 4000000 in
theorem tX2_read {x : am_X} {al : Bool} (n d : Nat) (hc : am_ok x cX2_read yX2_read 2 (some .int) (d + 9) 0 0) {r : Int32} {I' : am_I} {L' : am_L} (I : am_I) (L : am_L) (hf : fX2_read n d I L = some (r, I', L')) : am_J x (fun S => S = (some (.int r), (KC al), (RC al), I', L')) 0 [some (.ref 27), none] [] (KC al) (RC al) I L 0 0 := by
  unfold fX2_read at hf
  refine j_aload_n hc dX2_read_0 rfl ?_
  refine j_iconst (v := (0 : Int32)) hc dX2_read_1 ci_0 ?_
  refine j_putI hc dX2_read_2 (fpC_X2_17_27 _) rfl rfl hf (fun I1 hf => ?_)
  refine j_aload_n hc dX2_read_5 rfl ?_
  refine j_aload_n hc dX2_read_6 rfl ?_
  refine j_getR (u := 1) hc dX2_read_7 (fgC_X2_24_27 _) (rC_27_0 _) ?_
  refine j_iconst (v := (0 : Int32)) hc dX2_read_10 ci_0 ?_
  refine j_callVI (t := 1) (As := [.int (0 : Int32)]) hc dX2_read_11 kw_733 mX8_behindBlanks (kC_1 _) clX8 rfl (by omega) (Nat.le_of_ble_eq_true rfl) (Nat.le_of_ble_eq_true rfl) ⟨Nat.le_refl _, Nat.le_refl _⟩ hf (fun v I' L' h => qX8_behindBlanks x.2.1 n d (0 : Int32) I1 L v I' L' h) (fun v2 I2 L2 hf => ?_)
  refine j_putI hc dX2_read_14 (fpC_X2_21_27 _) rfl rfl hf (fun I3 hf => ?_)
  refine j_iconst (v := (0 : Int32)) hc dX2_read_17 ci_0 ?_
  refine j_istore_n hc dX2_read_18 (Nat.le_of_ble_eq_true rfl) hf (fun v4 hf => ?_)
  exact j_sub (tX2_read_b19 n d hc n _ _ _ hf) (And.intro rfl (And.intro rfl (trivial)))

set_option maxRecDepth 100000 in
theorem qX2_read (l : Launch) {al : Bool} (n d : Nat) (I : am_I) (L : am_L) (r : Int32) (I' : am_I) (L' : am_L) (hf : fX2_read n d I L = some (r, I', L')) : am_C l yX2_read cX2_read 2 (some .int) (d + 9) [.ref 27] (KC al) (RC al) I L (some (.int r)) I' L' := by
  exact am_intro (plainFor_of_name plX2) (fun _ _ => trivial) (Nat.le_of_ble_eq_true rfl) (fun x hl hc => by subst hl; exact j_sub (tX2_read n d hc  _ _ hf) (And.intro rfl (trivial)))
set_option maxRecDepth 100000 in
def fX11_fault (n d : Nat) (a1 : Int32) (I : am_I) (L : am_L) : Option (Int32 × am_I × am_L) :=
  if a1 = 0 then
    (am_b3 (fX10_read n d I L) (fun v2 I2 L2 => some (v2, I2, L2)))
    else
    (if a1 = (1 : Int32) then
      (am_b3 (fX2_read n d I L) (fun v1 I1 L1 => some (v1, I1, L1)))
      else
      (some ((-2 : Int32), I, L)))

set_option maxRecDepth 100000 in
set_option maxHeartbeats 4000000 in
theorem tX11_fault {x : am_X} {al : Bool} (n d : Nat) (hc : am_ok x cX11_fault yX11_fault 2 (some .int) (d + 10) 0 0) {r : Int32} {I' : am_I} {L' : am_L} (a1 : Int32) (I : am_I) (L : am_L) (hf : fX11_fault n d a1 I L = some (r, I', L')) : am_J x (fun S => S = (some (.int r), (KC al), (RC al), I', L')) 0 [some (.ref 0), some (.int a1)] [] (KC al) (RC al) I L 0 0 := by
  unfold fX11_fault at hf
  refine j_iload_n hc dX11_fault_0 rfl ?_
  refine j_if_ne (tgt := 12) hc dX11_fault_1 rfl hf (fun hf => ?_) (fun hf => ?_)
  · refine j_iload_n hc dX11_fault_12 rfl ?_
    refine j_iconst (v := (1 : Int32)) hc dX11_fault_13 ci_1 ?_
    refine j_icmp_ne (tgt := 27) hc dX11_fault_14 rfl hf (fun hf => ?_) (fun hf => ?_)
    · refine j_bipush (v := (-2 : Int32)) hc dX11_fault_27 cb_m2 ?_
      exact j_ireturn hc dX11_fault_29 rfl rfl hf
    · refine j_aload_n hc dX11_fault_17 rfl ?_
      refine j_getR (u := 27) hc dX11_fault_18 (fgC_X11_40_0 _) (rC_0_4 _) ?_
      refine j_callVI (t := 27) (As := []) hc dX11_fault_21 kw_729 mX2_read (kC_27 _) clX2 rfl (by omega) (Nat.le_of_ble_eq_true rfl) (Nat.le_of_ble_eq_true rfl) ⟨Nat.le_refl _, Nat.le_refl _⟩ hf (fun v I' L' h => qX2_read x.2.1 n d I L v I' L' h) (fun v1 I1 L1 hf => ?_)
      refine j_goto (tgt := 29) hc dX11_fault_24 rfl ?_
      exact j_ireturn hc dX11_fault_29 rfl rfl hf
  · refine j_aload_n hc dX11_fault_4 rfl ?_
    refine j_getR (u := 25) hc dX11_fault_5 (fgC_X11_31_0 _) (rC_0_3 _) ?_
    refine j_callVI (t := 25) (As := []) hc dX11_fault_8 kw_571 mX10_read (kC_25 _) clX10 rfl (by omega) (Nat.le_of_ble_eq_true rfl) (Nat.le_of_ble_eq_true rfl) ⟨Nat.le_refl _, Nat.le_refl _⟩ hf (fun v I' L' h => qX10_read x.2.1 n d I L v I' L' h) (fun v2 I2 L2 hf => ?_)
    exact j_ireturn hc dX11_fault_11 rfl rfl hf

set_option maxRecDepth 100000 in
theorem qX11_fault (l : Launch) {al : Bool} (n d : Nat) (a1 : Int32) (I : am_I) (L : am_L) (r : Int32) (I' : am_I) (L' : am_L) (hf : fX11_fault n d a1 I L = some (r, I', L')) : am_C l yX11_fault cX11_fault 2 (some .int) (d + 10) [.ref 0, .int a1] (KC al) (RC al) I L (some (.int r)) I' L' := by
  exact am_intro (plainFor_of_name plX11) (fun _ _ => trivial) (Nat.le_of_ble_eq_true rfl) (fun x hl hc => by subst hl; exact j_sub (tX11_fault n d hc _ _ _ hf) (And.intro rfl (And.intro rfl (trivial))))
set_option maxRecDepth 100000 in
def fX9_take_war_draft (n d : Nat) (I : am_I) (L : am_L) : Option (am_I × am_L) :=
  am_lt (am_up I 3 0 (I 14 0)) (fun I1 => am_lt (am_up I1 3 1 (I1 14 1)) (fun I2 => am_lt (am_up I2 3 2 (I2 14 2)) (fun I3 => am_lt (am_up I3 3 3 (I3 14 3)) (fun I4 => am_cp (0 : Int32) (0 : Int32) (8 : Int32) 8 8 (am_lt (am_cy I4 15 4 ((0 : Int32)).toNatClampNeg ((0 : Int32)).toNatClampNeg ((8 : Int32)).toNatClampNeg) (fun I5 => am_cp (0 : Int32) (0 : Int32) (8 : Int32) 8 8 (am_lt (am_cy I5 16 5 ((0 : Int32)).toNatClampNeg ((0 : Int32)).toNatClampNeg ((8 : Int32)).toNatClampNeg) (fun I6 => am_cp (0 : Int32) (0 : Int32) (8 : Int32) 8 8 (am_lt (am_cy I6 17 6 ((0 : Int32)).toNatClampNeg ((0 : Int32)).toNatClampNeg ((8 : Int32)).toNatClampNeg) (fun I7 => am_cp (0 : Int32) (0 : Int32) (8 : Int32) 8 8 (am_lt (am_cy I7 18 7 ((0 : Int32)).toNatClampNeg ((0 : Int32)).toNatClampNeg ((8 : Int32)).toNatClampNeg) (fun I8 => am_cp (0 : Int32) (0 : Int32) (8 : Int32) 8 8 (am_lt (am_cy I8 19 8 ((0 : Int32)).toNatClampNeg ((0 : Int32)).toNatClampNeg ((8 : Int32)).toNatClampNeg) (fun I9 => am_cp (0 : Int32) (0 : Int32) (8 : Int32) 8 8 (am_lt (am_cy I9 20 9 ((0 : Int32)).toNatClampNeg ((0 : Int32)).toNatClampNeg ((8 : Int32)).toNatClampNeg) (fun I10 => am_cp (0 : Int32) (0 : Int32) (6 : Int32) 6 6 (am_lt (am_cy I10 21 10 ((0 : Int32)).toNatClampNeg ((0 : Int32)).toNatClampNeg ((6 : Int32)).toNatClampNeg) (fun I11 => am_cp (0 : Int32) (0 : Int32) (6 : Int32) 6 6 (am_lt (am_cy I11 22 11 ((0 : Int32)).toNatClampNeg ((0 : Int32)).toNatClampNeg ((6 : Int32)).toNatClampNeg) (fun I12 => am_cp (0 : Int32) (0 : Int32) (21 : Int32) 21 21 (am_lt (am_cy I12 23 12 ((0 : Int32)).toNatClampNeg ((0 : Int32)).toNatClampNeg ((21 : Int32)).toNatClampNeg) (fun I13 => am_cp (0 : Int32) (0 : Int32) (2 : Int32) 2 2 (am_lt (am_cy I13 24 13 ((0 : Int32)).toNatClampNeg ((0 : Int32)).toNatClampNeg ((2 : Int32)).toNatClampNeg) (fun I14 => some (I14, L)))))))))))))))))))))))))

set_option maxRecDepth 100000 in
set_option maxHeartbeats 4000000 in
theorem tX9_take_war_draft {x : am_X} {al : Bool} (n d : Nat) (hc : am_ok x cX9_take yX9_take 2 none (d + 1) 0 0) {I' : am_I} {L' : am_L} (I : am_I) (L : am_L) (hf : fX9_take_war_draft n d I L = some (I', L')) : am_J x (fun S => S = (none, (KC al), (RC al), I', L')) 0 [some (.ref 3), some (.ref 14)] [] (KC al) (RC al) I L 0 0 := by
  unfold fX9_take_war_draft at hf
  refine j_aload_n hc dX9_take_0 rfl ?_
  refine j_aload_n hc dX9_take_1 rfl ?_
  refine j_getI hc dX9_take_2 (fgC_X9_7_14 _) ?_
  refine j_putI hc dX9_take_5 (fpC_X9_7_3 _) rfl rfl hf (fun I1 hf => ?_)
  refine j_aload_n hc dX9_take_8 rfl ?_
  refine j_aload_n hc dX9_take_9 rfl ?_
  refine j_getI hc dX9_take_10 (fgC_X9_13_14 _) ?_
  refine j_putI hc dX9_take_13 (fpC_X9_13_3 _) rfl rfl hf (fun I2 hf => ?_)
  refine j_aload_n hc dX9_take_16 rfl ?_
  refine j_aload_n hc dX9_take_17 rfl ?_
  refine j_getI hc dX9_take_18 (fgC_X9_16_14 _) ?_
  refine j_putI hc dX9_take_21 (fpC_X9_16_3 _) rfl rfl hf (fun I3 hf => ?_)
  refine j_aload_n hc dX9_take_24 rfl ?_
  refine j_aload_n hc dX9_take_25 rfl ?_
  refine j_getI hc dX9_take_26 (fgC_X9_19_14 _) ?_
  refine j_putI hc dX9_take_29 (fpC_X9_19_3 _) rfl rfl hf (fun I4 hf => ?_)
  refine j_aload_n hc dX9_take_32 rfl ?_
  refine j_getR (u := 15) hc dX9_take_33 (fgC_X9_26_14 _) (rC_14_5 _) ?_
  refine j_iconst (v := (0 : Int32)) hc dX9_take_36 ci_0 ?_
  refine j_aload_n hc dX9_take_37 rfl ?_
  refine j_getR (u := 4) hc dX9_take_38 (fgC_X9_26_3 _) (rC_3_5 _) ?_
  refine j_iconst (v := (0 : Int32)) hc dX9_take_41 ci_0 ?_
  refine j_bipush (v := (8 : Int32)) hc dX9_take_42 cb_8 ?_
  refine j_copy (t0 := 15) (t1 := 4) (n0 := 8) (n1 := 8) hc dX9_take_44 kw_810 am_sys (kC_15 _) (kC_4 _) (by omega) (Nat.le_of_ble_eq_true rfl) hf (fun I5 hf => ?_)
  refine j_aload_n hc dX9_take_47 rfl ?_
  refine j_getR (u := 16) hc dX9_take_48 (fgC_X9_30_14 _) (rC_14_6 _) ?_
  refine j_iconst (v := (0 : Int32)) hc dX9_take_51 ci_0 ?_
  refine j_aload_n hc dX9_take_52 rfl ?_
  refine j_getR (u := 5) hc dX9_take_53 (fgC_X9_30_3 _) (rC_3_6 _) ?_
  refine j_iconst (v := (0 : Int32)) hc dX9_take_56 ci_0 ?_
  refine j_bipush (v := (8 : Int32)) hc dX9_take_57 cb_8 ?_
  refine j_copy (t0 := 16) (t1 := 5) (n0 := 8) (n1 := 8) hc dX9_take_59 kw_810 am_sys (kC_16 _) (kC_5 _) (by omega) (Nat.le_of_ble_eq_true rfl) hf (fun I6 hf => ?_)
  refine j_aload_n hc dX9_take_62 rfl ?_
  refine j_getR (u := 17) hc dX9_take_63 (fgC_X9_33_14 _) (rC_14_7 _) ?_
  refine j_iconst (v := (0 : Int32)) hc dX9_take_66 ci_0 ?_
  refine j_aload_n hc dX9_take_67 rfl ?_
  refine j_getR (u := 6) hc dX9_take_68 (fgC_X9_33_3 _) (rC_3_7 _) ?_
  refine j_iconst (v := (0 : Int32)) hc dX9_take_71 ci_0 ?_
  refine j_bipush (v := (8 : Int32)) hc dX9_take_72 cb_8 ?_
  refine j_copy (t0 := 17) (t1 := 6) (n0 := 8) (n1 := 8) hc dX9_take_74 kw_810 am_sys (kC_17 _) (kC_6 _) (by omega) (Nat.le_of_ble_eq_true rfl) hf (fun I7 hf => ?_)
  refine j_aload_n hc dX9_take_77 rfl ?_
  refine j_getR (u := 18) hc dX9_take_78 (fgC_X9_36_14 _) (rC_14_8 _) ?_
  refine j_iconst (v := (0 : Int32)) hc dX9_take_81 ci_0 ?_
  refine j_aload_n hc dX9_take_82 rfl ?_
  refine j_getR (u := 7) hc dX9_take_83 (fgC_X9_36_3 _) (rC_3_8 _) ?_
  refine j_iconst (v := (0 : Int32)) hc dX9_take_86 ci_0 ?_
  refine j_bipush (v := (8 : Int32)) hc dX9_take_87 cb_8 ?_
  refine j_copy (t0 := 18) (t1 := 7) (n0 := 8) (n1 := 8) hc dX9_take_89 kw_810 am_sys (kC_18 _) (kC_7 _) (by omega) (Nat.le_of_ble_eq_true rfl) hf (fun I8 hf => ?_)
  refine j_aload_n hc dX9_take_92 rfl ?_
  refine j_getR (u := 19) hc dX9_take_93 (fgC_X9_39_14 _) (rC_14_9 _) ?_
  refine j_iconst (v := (0 : Int32)) hc dX9_take_96 ci_0 ?_
  refine j_aload_n hc dX9_take_97 rfl ?_
  refine j_getR (u := 8) hc dX9_take_98 (fgC_X9_39_3 _) (rC_3_9 _) ?_
  refine j_iconst (v := (0 : Int32)) hc dX9_take_101 ci_0 ?_
  refine j_bipush (v := (8 : Int32)) hc dX9_take_102 cb_8 ?_
  refine j_copy (t0 := 19) (t1 := 8) (n0 := 8) (n1 := 8) hc dX9_take_104 kw_810 am_sys (kC_19 _) (kC_8 _) (by omega) (Nat.le_of_ble_eq_true rfl) hf (fun I9 hf => ?_)
  refine j_aload_n hc dX9_take_107 rfl ?_
  refine j_getR (u := 20) hc dX9_take_108 (fgC_X9_42_14 _) (rC_14_10 _) ?_
  refine j_iconst (v := (0 : Int32)) hc dX9_take_111 ci_0 ?_
  refine j_aload_n hc dX9_take_112 rfl ?_
  refine j_getR (u := 9) hc dX9_take_113 (fgC_X9_42_3 _) (rC_3_10 _) ?_
  refine j_iconst (v := (0 : Int32)) hc dX9_take_116 ci_0 ?_
  refine j_bipush (v := (8 : Int32)) hc dX9_take_117 cb_8 ?_
  refine j_copy (t0 := 20) (t1 := 9) (n0 := 8) (n1 := 8) hc dX9_take_119 kw_810 am_sys (kC_20 _) (kC_9 _) (by omega) (Nat.le_of_ble_eq_true rfl) hf (fun I10 hf => ?_)
  refine j_aload_n hc dX9_take_122 rfl ?_
  refine j_getR (u := 21) hc dX9_take_123 (fgC_X9_45_14 _) (rC_14_11 _) ?_
  refine j_iconst (v := (0 : Int32)) hc dX9_take_126 ci_0 ?_
  refine j_aload_n hc dX9_take_127 rfl ?_
  refine j_getR (u := 10) hc dX9_take_128 (fgC_X9_45_3 _) (rC_3_11 _) ?_
  refine j_iconst (v := (0 : Int32)) hc dX9_take_131 ci_0 ?_
  refine j_bipush (v := (6 : Int32)) hc dX9_take_132 cb_6 ?_
  refine j_copy (t0 := 21) (t1 := 10) (n0 := 6) (n1 := 6) hc dX9_take_134 kw_810 am_sys (kC_21 _) (kC_10 _) (by omega) (Nat.le_of_ble_eq_true rfl) hf (fun I11 hf => ?_)
  refine j_aload_n hc dX9_take_137 rfl ?_
  refine j_getR (u := 22) hc dX9_take_138 (fgC_X9_48_14 _) (rC_14_12 _) ?_
  refine j_iconst (v := (0 : Int32)) hc dX9_take_141 ci_0 ?_
  refine j_aload_n hc dX9_take_142 rfl ?_
  refine j_getR (u := 11) hc dX9_take_143 (fgC_X9_48_3 _) (rC_3_12 _) ?_
  refine j_iconst (v := (0 : Int32)) hc dX9_take_146 ci_0 ?_
  refine j_bipush (v := (6 : Int32)) hc dX9_take_147 cb_6 ?_
  refine j_copy (t0 := 22) (t1 := 11) (n0 := 6) (n1 := 6) hc dX9_take_149 kw_810 am_sys (kC_22 _) (kC_11 _) (by omega) (Nat.le_of_ble_eq_true rfl) hf (fun I12 hf => ?_)
  refine j_aload_n hc dX9_take_152 rfl ?_
  refine j_getR (u := 23) hc dX9_take_153 (fgC_X9_51_14 _) (rC_14_13 _) ?_
  refine j_iconst (v := (0 : Int32)) hc dX9_take_156 ci_0 ?_
  refine j_aload_n hc dX9_take_157 rfl ?_
  refine j_getR (u := 12) hc dX9_take_158 (fgC_X9_51_3 _) (rC_3_13 _) ?_
  refine j_iconst (v := (0 : Int32)) hc dX9_take_161 ci_0 ?_
  refine j_bipush (v := (21 : Int32)) hc dX9_take_162 cb_21 ?_
  refine j_copy (t0 := 23) (t1 := 12) (n0 := 21) (n1 := 21) hc dX9_take_164 kw_810 am_sys (kC_23 _) (kC_12 _) (by omega) (Nat.le_of_ble_eq_true rfl) hf (fun I13 hf => ?_)
  refine j_aload_n hc dX9_take_167 rfl ?_
  refine j_getR (u := 24) hc dX9_take_168 (fgC_X9_54_14 _) (rC_14_14 _) ?_
  refine j_iconst (v := (0 : Int32)) hc dX9_take_171 ci_0 ?_
  refine j_aload_n hc dX9_take_172 rfl ?_
  refine j_getR (u := 13) hc dX9_take_173 (fgC_X9_54_3 _) (rC_3_14 _) ?_
  refine j_iconst (v := (0 : Int32)) hc dX9_take_176 ci_0 ?_
  refine j_iconst (v := (2 : Int32)) hc dX9_take_177 ci_2 ?_
  refine j_copy (t0 := 24) (t1 := 13) (n0 := 2) (n1 := 2) hc dX9_take_178 kw_810 am_sys (kC_24 _) (kC_13 _) (by omega) (Nat.le_of_ble_eq_true rfl) hf (fun I14 hf => ?_)
  exact j_return hc dX9_take_181 rfl rfl hf

set_option maxRecDepth 100000 in
theorem qX9_take_war_draft (l : Launch) {al : Bool} (n d : Nat) (I : am_I) (L : am_L) (I' : am_I) (L' : am_L) (hf : fX9_take_war_draft n d I L = some (I', L')) : am_C l yX9_take cX9_take 2 none (d + 1) [.ref 3, .ref 14] (KC al) (RC al) I L none I' L' := by
  exact am_intro (plainFor_of_name plX9) (fun _ _ => trivial) (Nat.le_of_ble_eq_true rfl) (fun x hl hc => by subst hl; exact j_sub (tX9_take_war_draft n d hc  _ _ hf) (And.intro rfl (And.intro rfl (trivial))))
set_option maxRecDepth 100000 in
def fX0_layOut_war_b75 (n d : Nat) (k4 : Int32 → Int32 → am_I → am_L → Option (am_I × am_L)) (a2 : Int32) (a3 : Int32) (I : am_I) (L : am_L) : Option (am_I × am_L) :=
  am_ck a3 21 (am_lt (am_up I 53 (a3).toNatClampNeg (a2 - (1 : Int32))) (fun I1 => am_lt (a3 + (1 : Int32)) (fun v2 => k4 a2 v2 I1 L)))

set_option maxRecDepth 100000 in
set_option maxHeartbeats 4000000 in
theorem tX0_layOut_war_b75 {x : am_X} {al : Bool} (n d : Nat) (hc : am_ok x cX0_layOut yX0_layOut 5 none (d + 1) 0 0) {I' : am_I} {L' : am_L} (k4 : Int32 → Int32 → am_I → am_L → Option (am_I × am_L)) (hk4 : ∀ (a2 : Int32) (a3 : Int32) (I : am_I) (L : am_L), k4 a2 a3 I L = some (I', L') → am_J x (fun S => S = (none, (KC al), (RC al), I', L')) 4 [some (.ref 51), some (.ref 3), some (.int a2), some (.int a3), none] [] (KC al) (RC al) I L 0 0) (a2 : Int32) (a3 : Int32) (I : am_I) (L : am_L) (hf : fX0_layOut_war_b75 n d k4 a2 a3 I L = some (I', L')) : am_J x (fun S => S = (none, (KC al), (RC al), I', L')) 75 [some (.ref 51), some (.ref 3), some (.int a2), some (.int a3), none] [] (KC al) (RC al) I L 0 0 := by
  unfold fX0_layOut_war_b75 at hf
  refine j_aload_n hc dX0_layOut_75 rfl ?_
  refine j_getR (u := 53) hc dX0_layOut_76 (fgC_X0_17_51 _) (rC_51_1 _) ?_
  refine j_iload_n hc dX0_layOut_79 rfl ?_
  refine j_iload_n hc dX0_layOut_80 rfl ?_
  refine j_iconst (v := (1 : Int32)) hc dX0_layOut_81 ci_1 ?_
  refine j_isub hc dX0_layOut_82 ?_
  refine j_iastore (n := 21) hc dX0_layOut_83 (kC_53 _) hf (fun I1 hf => ?_)
  refine j_iinc (w := (1 : Int32)) hc dX0_layOut_84 rfl ci_1 (Nat.le_of_ble_eq_true rfl) hf (fun v2 hf => ?_)
  refine j_goto (tgt := 4) hc dX0_layOut_87 rfl ?_
  exact j_sub (hk4 _ _ _ _ hf) (And.intro rfl (And.intro rfl (And.intro rfl (And.intro rfl (trivial)))))

set_option maxRecDepth 100000 in
def fX0_layOut_war_b65 (n d : Nat) (k4 : Int32 → Int32 → am_I → am_L → Option (am_I × am_L)) (k20 : Int32 → Int32 → Int32 → am_I → am_L → Option (am_I × am_L)) (s1 : Int32) (s2 : Int32) (a2 : Int32) (a3 : Int32) (a4 : Int32) (I : am_I) (L : am_L) : Option (am_I × am_L) :=
  am_ck s1 75 (am_lt (am_up I 55 (s1).toNatClampNeg s2) (fun I1 => am_lt (a2 + (1 : Int32)) (fun v2 => am_lt (a4 + (1 : Int32)) (fun v3 => k20 v2 a3 v3 I1 L))))

set_option maxRecDepth 100000 in
set_option maxHeartbeats 4000000 in
theorem tX0_layOut_war_b65 {x : am_X} {al : Bool} (n d : Nat) (hc : am_ok x cX0_layOut yX0_layOut 5 none (d + 1) 0 0) {I' : am_I} {L' : am_L} (k4 : Int32 → Int32 → am_I → am_L → Option (am_I × am_L)) (k20 : Int32 → Int32 → Int32 → am_I → am_L → Option (am_I × am_L)) (hk4 : ∀ (a2 : Int32) (a3 : Int32) (I : am_I) (L : am_L), k4 a2 a3 I L = some (I', L') → am_J x (fun S => S = (none, (KC al), (RC al), I', L')) 4 [some (.ref 51), some (.ref 3), some (.int a2), some (.int a3), none] [] (KC al) (RC al) I L 0 0) (hk20 : ∀ (a2 : Int32) (a3 : Int32) (a4 : Int32) (I : am_I) (L : am_L), k20 a2 a3 a4 I L = some (I', L') → am_J x (fun S => S = (none, (KC al), (RC al), I', L')) 20 [some (.ref 51), some (.ref 3), some (.int a2), some (.int a3), some (.int a4)] [] (KC al) (RC al) I L 0 0) (s1 : Int32) (s2 : Int32) (a2 : Int32) (a3 : Int32) (a4 : Int32) (I : am_I) (L : am_L) (hf : fX0_layOut_war_b65 n d k4 k20 s1 s2 a2 a3 a4 I L = some (I', L')) : am_J x (fun S => S = (none, (KC al), (RC al), I', L')) 65 [some (.ref 51), some (.ref 3), some (.int a2), some (.int a3), some (.int a4)] [.int s2, .int s1, .ref 55] (KC al) (RC al) I L 0 0 := by
  unfold fX0_layOut_war_b65 at hf
  refine j_iastore (n := 75) hc dX0_layOut_65 (kC_55 _) hf (fun I1 hf => ?_)
  refine j_iinc (w := (1 : Int32)) hc dX0_layOut_66 rfl ci_1 (Nat.le_of_ble_eq_true rfl) hf (fun v2 hf => ?_)
  refine j_iinc (w := (1 : Int32)) hc dX0_layOut_69 rfl ci_1 (Nat.le_of_ble_eq_true rfl) hf (fun v3 hf => ?_)
  refine j_goto (tgt := 20) hc dX0_layOut_72 rfl ?_
  exact j_sub (hk20 _ _ _ _ _ hf) (And.intro rfl (And.intro rfl (And.intro rfl (And.intro rfl (And.intro rfl (trivial))))))

set_option maxRecDepth 100000 in
def fX0_layOut_war_b20w (n d : Nat) (k4 : Int32 → Int32 → am_I → am_L → Option (am_I × am_L)) (k20 : Int32 → Int32 → Int32 → am_I → am_L → Option (am_I × am_L)) (a2 : Int32) (a3 : Int32) (a4 : Int32) (I : am_I) (L : am_L) : Option (am_I × am_L) :=
  am_ck a3 21 (am_lt (I 12 (a3).toNatClampNeg) (fun v1 => if v1 < a4 then
    (fX0_layOut_war_b75 n d k4 a2 a3 I L)
    else
    (if (75 : Int32) ≤ a2 then
      (fX0_layOut_war_b75 n d k4 a2 a3 I L)
      else
      (am_ck a2 75 (am_lt (am_up I 54 (a2).toNatClampNeg a3) (fun I2 => if a3 = 0 then
        (fX0_layOut_war_b65 n d k4 k20 a2 (0 : Int32) a2 a3 a4 I2 L)
        else
        (am_ck a3 21 (am_lt (I2 52 (a3).toNatClampNeg) (fun v3 => fX0_layOut_war_b65 n d k4 k20 a2 (v3 - (1 : Int32)) a2 a3 a4 I2 L)))))))))

set_option maxRecDepth 100000 in
set_option maxHeartbeats 4000000 in
theorem tX0_layOut_war_b20w {x : am_X} {al : Bool} (n d : Nat) (hc : am_ok x cX0_layOut yX0_layOut 5 none (d + 1) 0 0) {I' : am_I} {L' : am_L} (k4 : Int32 → Int32 → am_I → am_L → Option (am_I × am_L)) (k20 : Int32 → Int32 → Int32 → am_I → am_L → Option (am_I × am_L)) (hk4 : ∀ (a2 : Int32) (a3 : Int32) (I : am_I) (L : am_L), k4 a2 a3 I L = some (I', L') → am_J x (fun S => S = (none, (KC al), (RC al), I', L')) 4 [some (.ref 51), some (.ref 3), some (.int a2), some (.int a3), none] [] (KC al) (RC al) I L 0 0) (hk20 : ∀ (a2 : Int32) (a3 : Int32) (a4 : Int32) (I : am_I) (L : am_L), k20 a2 a3 a4 I L = some (I', L') → am_J x (fun S => S = (none, (KC al), (RC al), I', L')) 20 [some (.ref 51), some (.ref 3), some (.int a2), some (.int a3), some (.int a4)] [] (KC al) (RC al) I L 0 0) (a2 : Int32) (a3 : Int32) (a4 : Int32) (I : am_I) (L : am_L) (hf : fX0_layOut_war_b20w n d k4 k20 a2 a3 a4 I L = some (I', L')) : am_J x (fun S => S = (none, (KC al), (RC al), I', L')) 20 [some (.ref 51), some (.ref 3), some (.int a2), some (.int a3), some (.int a4)] [] (KC al) (RC al) I L 0 0 := by
  unfold fX0_layOut_war_b20w at hf
  refine j_iload hc dX0_layOut_20 rfl ?_
  refine j_aload_n hc dX0_layOut_22 rfl ?_
  refine j_getR (u := 12) hc dX0_layOut_23 (fgC_X0_51_3 _) (rC_3_13 _) ?_
  refine j_iload_n hc dX0_layOut_26 rfl ?_
  refine j_iaload (n := 21) hc dX0_layOut_27 (kC_12 _) hf (fun v1 hf => ?_)
  refine j_icmp_gt (tgt := 75) hc dX0_layOut_28 rfl hf (fun hf => ?_) (fun hf => ?_)
  · exact j_sub (tX0_layOut_war_b75 n d hc k4 hk4 _ _ _ _ hf) (And.intro rfl (And.intro rfl (And.intro rfl (And.intro rfl (trivial)))))
  · refine j_iload_n hc dX0_layOut_31 rfl ?_
    refine j_bipush (v := (75 : Int32)) hc dX0_layOut_32 cb_75 ?_
    refine j_icmp_ge (tgt := 75) hc dX0_layOut_34 rfl hf (fun hf => ?_) (fun hf => ?_)
    · exact j_sub (tX0_layOut_war_b75 n d hc k4 hk4 _ _ _ _ hf) (And.intro rfl (And.intro rfl (And.intro rfl (And.intro rfl (trivial)))))
    · refine j_aload_n hc dX0_layOut_37 rfl ?_
      refine j_getR (u := 54) hc dX0_layOut_38 (fgC_X0_20_51 _) (rC_51_2 _) ?_
      refine j_iload_n hc dX0_layOut_41 rfl ?_
      refine j_iload_n hc dX0_layOut_42 rfl ?_
      refine j_iastore (n := 75) hc dX0_layOut_43 (kC_54 _) hf (fun I2 hf => ?_)
      refine j_aload_n hc dX0_layOut_44 rfl ?_
      refine j_getR (u := 55) hc dX0_layOut_45 (fgC_X0_23_51 _) (rC_51_3 _) ?_
      refine j_iload_n hc dX0_layOut_48 rfl ?_
      refine j_iload_n hc dX0_layOut_49 rfl ?_
      refine j_if_ne (tgt := 57) hc dX0_layOut_50 rfl hf (fun hf => ?_) (fun hf => ?_)
      · refine j_aload_n hc dX0_layOut_57 rfl ?_
        refine j_getR (u := 52) hc dX0_layOut_58 (fgC_X0_13_51 _) (rC_51_0 _) ?_
        refine j_iload_n hc dX0_layOut_61 rfl ?_
        refine j_iaload (n := 21) hc dX0_layOut_62 (kC_52 _) hf (fun v3 hf => ?_)
        refine j_iconst (v := (1 : Int32)) hc dX0_layOut_63 ci_1 ?_
        refine j_isub hc dX0_layOut_64 ?_
        exact j_sub (tX0_layOut_war_b65 n d hc k4 k20 hk4 hk20 _ _ _ _ _ _ _ hf) (And.intro rfl (And.intro rfl (And.intro rfl (And.intro rfl (And.intro rfl (trivial))))))
      · refine j_iconst (v := (0 : Int32)) hc dX0_layOut_53 ci_0 ?_
        refine j_goto (tgt := 65) hc dX0_layOut_54 rfl ?_
        exact j_sub (tX0_layOut_war_b65 n d hc k4 k20 hk4 hk20 _ _ _ _ _ _ _ hf) (And.intro rfl (And.intro rfl (And.intro rfl (And.intro rfl (And.intro rfl (trivial))))))

def fX0_layOut_war_b20 (n d : Nat) (k4 : Int32 → Int32 → am_I → am_L → Option (am_I × am_L)) : Nat → Int32 → Int32 → Int32 → am_I → am_L → Option (am_I × am_L)
  | 0 => fun _ _ _ _ _ => none
  | m + 1 => fX0_layOut_war_b20w n d  k4 (fX0_layOut_war_b20 n d k4 m)

set_option maxRecDepth 100000 in
theorem tX0_layOut_war_b20 {x : am_X} {al : Bool} (n d : Nat) (hc : am_ok x cX0_layOut yX0_layOut 5 none (d + 1) 0 0) {I' : am_I} {L' : am_L} (k4 : Int32 → Int32 → am_I → am_L → Option (am_I × am_L)) (hk4 : ∀ (a2 : Int32) (a3 : Int32) (I : am_I) (L : am_L), k4 a2 a3 I L = some (I', L') → am_J x (fun S => S = (none, (KC al), (RC al), I', L')) 4 [some (.ref 51), some (.ref 3), some (.int a2), some (.int a3), none] [] (KC al) (RC al) I L 0 0) (m : Nat) : ∀ (a2 : Int32) (a3 : Int32) (a4 : Int32) (I : am_I) (L : am_L) (hf : fX0_layOut_war_b20 n d k4 m a2 a3 a4 I L = some (I', L')), am_J x (fun S => S = (none, (KC al), (RC al), I', L')) 20 [some (.ref 51), some (.ref 3), some (.int a2), some (.int a3), some (.int a4)] [] (KC al) (RC al) I L 0 0 := by
  induction m with
  | zero => intro a2 a3 a4 I L hf; exact (Option.some_ne_none _ hf.symm).elim
  | succ m ih => intro a2 a3 a4 I L hf; exact tX0_layOut_war_b20w n d hc k4 (fX0_layOut_war_b20 n d k4 m) hk4 ih a2 a3 a4 I L hf

set_option maxRecDepth 100000 in
def fX0_layOut_war_b4w (n d : Nat) (k4 : Int32 → Int32 → am_I → am_L → Option (am_I × am_L)) (a2 : Int32) (a3 : Int32) (I : am_I) (L : am_L) : Option (am_I × am_L) :=
  if (20 : Int32) < a3 then
    (am_lt (am_up I 51 8 (0 : Int32)) (fun I1 => am_lt (am_up I1 51 9 (0 : Int32)) (fun I2 => some (I2, L))))
    else
    (am_ck a3 21 (am_lt (am_up I 52 (a3).toNatClampNeg a2) (fun I3 => am_lt (0 : Int32) (fun v4 => fX0_layOut_war_b20 n d k4 n a2 a3 v4 I3 L))))

set_option maxRecDepth 100000 in
set_option maxHeartbeats 4000000 in
theorem tX0_layOut_war_b4w {x : am_X} {al : Bool} (n d : Nat) (hc : am_ok x cX0_layOut yX0_layOut 5 none (d + 1) 0 0) {I' : am_I} {L' : am_L} (k4 : Int32 → Int32 → am_I → am_L → Option (am_I × am_L)) (hk4 : ∀ (a2 : Int32) (a3 : Int32) (I : am_I) (L : am_L), k4 a2 a3 I L = some (I', L') → am_J x (fun S => S = (none, (KC al), (RC al), I', L')) 4 [some (.ref 51), some (.ref 3), some (.int a2), some (.int a3), none] [] (KC al) (RC al) I L 0 0) (a2 : Int32) (a3 : Int32) (I : am_I) (L : am_L) (hf : fX0_layOut_war_b4w n d k4 a2 a3 I L = some (I', L')) : am_J x (fun S => S = (none, (KC al), (RC al), I', L')) 4 [some (.ref 51), some (.ref 3), some (.int a2), some (.int a3), none] [] (KC al) (RC al) I L 0 0 := by
  unfold fX0_layOut_war_b4w at hf
  refine j_iload_n hc dX0_layOut_4 rfl ?_
  refine j_bipush (v := (20 : Int32)) hc dX0_layOut_5 cb_20 ?_
  refine j_icmp_gt (tgt := 90) hc dX0_layOut_7 rfl hf (fun hf => ?_) (fun hf => ?_)
  · refine j_aload_n hc dX0_layOut_90 rfl ?_
    refine j_iconst (v := (0 : Int32)) hc dX0_layOut_91 ci_0 ?_
    refine j_putI hc dX0_layOut_92 (fpC_X0_38_51 _) rfl rfl hf (fun I1 hf => ?_)
    refine j_aload_n hc dX0_layOut_95 rfl ?_
    refine j_iconst (v := (0 : Int32)) hc dX0_layOut_96 ci_0 ?_
    refine j_putI hc dX0_layOut_97 (fpC_X0_42_51 _) rfl rfl hf (fun I2 hf => ?_)
    exact j_return hc dX0_layOut_100 rfl rfl hf
  · refine j_aload_n hc dX0_layOut_10 rfl ?_
    refine j_getR (u := 52) hc dX0_layOut_11 (fgC_X0_13_51 _) (rC_51_0 _) ?_
    refine j_iload_n hc dX0_layOut_14 rfl ?_
    refine j_iload_n hc dX0_layOut_15 rfl ?_
    refine j_iastore (n := 21) hc dX0_layOut_16 (kC_52 _) hf (fun I3 hf => ?_)
    refine j_iconst (v := (0 : Int32)) hc dX0_layOut_17 ci_0 ?_
    refine j_istore hc dX0_layOut_18 (Nat.le_of_ble_eq_true rfl) hf (fun v4 hf => ?_)
    exact j_sub (tX0_layOut_war_b20 n d hc k4 hk4 n _ _ _ _ _ hf) (And.intro rfl (And.intro rfl (And.intro rfl (And.intro rfl (And.intro rfl (trivial))))))

def fX0_layOut_war_b4 (n d : Nat) : Nat → Int32 → Int32 → am_I → am_L → Option (am_I × am_L)
  | 0 => fun _ _ _ _ => none
  | m + 1 => fX0_layOut_war_b4w n d  (fX0_layOut_war_b4 n d m)

set_option maxRecDepth 100000 in
theorem tX0_layOut_war_b4 {x : am_X} {al : Bool} (n d : Nat) (hc : am_ok x cX0_layOut yX0_layOut 5 none (d + 1) 0 0) {I' : am_I} {L' : am_L} (m : Nat) : ∀ (a2 : Int32) (a3 : Int32) (I : am_I) (L : am_L) (hf : fX0_layOut_war_b4 n d m a2 a3 I L = some (I', L')), am_J x (fun S => S = (none, (KC al), (RC al), I', L')) 4 [some (.ref 51), some (.ref 3), some (.int a2), some (.int a3), none] [] (KC al) (RC al) I L 0 0 := by
  induction m with
  | zero => intro a2 a3 I L hf; exact (Option.some_ne_none _ hf.symm).elim
  | succ m ih => intro a2 a3 I L hf; exact tX0_layOut_war_b4w n d hc (fX0_layOut_war_b4 n d m) ih a2 a3 I L hf

set_option maxRecDepth 100000 in
def fX0_layOut_war (n d : Nat) (I : am_I) (L : am_L) : Option (am_I × am_L) :=
  am_lt (0 : Int32) (fun v1 => am_lt (0 : Int32) (fun v2 => fX0_layOut_war_b4 n d n v1 v2 I L))

set_option maxRecDepth 100000 in
set_option maxHeartbeats 4000000 in
theorem tX0_layOut_war {x : am_X} {al : Bool} (n d : Nat) (hc : am_ok x cX0_layOut yX0_layOut 5 none (d + 1) 0 0) {I' : am_I} {L' : am_L} (I : am_I) (L : am_L) (hf : fX0_layOut_war n d I L = some (I', L')) : am_J x (fun S => S = (none, (KC al), (RC al), I', L')) 0 [some (.ref 51), some (.ref 3), none, none, none] [] (KC al) (RC al) I L 0 0 := by
  unfold fX0_layOut_war at hf
  refine j_iconst (v := (0 : Int32)) hc dX0_layOut_0 ci_0 ?_
  refine j_istore_n hc dX0_layOut_1 (Nat.le_of_ble_eq_true rfl) hf (fun v1 hf => ?_)
  refine j_iconst (v := (0 : Int32)) hc dX0_layOut_2 ci_0 ?_
  refine j_istore_n hc dX0_layOut_3 (Nat.le_of_ble_eq_true rfl) hf (fun v2 hf => ?_)
  exact j_sub (tX0_layOut_war_b4 n d hc n _ _ _ _ hf) (And.intro rfl (And.intro rfl (And.intro rfl (And.intro rfl (trivial)))))

set_option maxRecDepth 100000 in
theorem qX0_layOut_war (l : Launch) {al : Bool} (n d : Nat) (I : am_I) (L : am_L) (I' : am_I) (L' : am_L) (hf : fX0_layOut_war n d I L = some (I', L')) : am_C l yX0_layOut cX0_layOut 5 none (d + 1) [.ref 51, .ref 3] (KC al) (RC al) I L none I' L' := by
  exact am_intro (plainFor_of_name plX0) (fun _ _ => trivial) (Nat.le_of_ble_eq_true rfl) (fun x hl hc => by subst hl; exact j_sub (tX0_layOut_war n d hc  _ _ hf) (And.intro rfl (And.intro rfl (trivial))))
set_option maxRecDepth 100000 in
def fX7_restAt (n d : Nat) (a1 : Int32) (I : am_I) (L : am_L) : Option (Int32 × am_I × am_L) :=
  if a1 < 0 then
    (some ((0 : Int32), I, L))
    else
    (if (20 : Int32) < a1 then
      (some ((0 : Int32), I, L))
      else
      (am_ck a1 21 (am_lt (I 12 (a1).toNatClampNeg) (fun v1 => some (v1, I, L)))))

set_option maxRecDepth 100000 in
set_option maxHeartbeats 4000000 in
theorem tX7_restAt {x : am_X} {al : Bool} (n d : Nat) (hc : am_ok x cX7_restAt yX7_restAt 2 (some .int) (d + 1) 0 0) {r : Int32} {I' : am_I} {L' : am_L} (a1 : Int32) (I : am_I) (L : am_L) (hf : fX7_restAt n d a1 I L = some (r, I', L')) : am_J x (fun S => S = (some (.int r), (KC al), (RC al), I', L')) 0 [some (.ref 39), some (.int a1)] [] (KC al) (RC al) I L 0 0 := by
  unfold fX7_restAt at hf
  refine j_iload_n hc dX7_restAt_0 rfl ?_
  refine j_if_lt (tgt := 22) hc dX7_restAt_1 rfl hf (fun hf => ?_) (fun hf => ?_)
  · refine j_iconst (v := (0 : Int32)) hc dX7_restAt_22 ci_0 ?_
    exact j_ireturn hc dX7_restAt_23 rfl rfl hf
  · refine j_iload_n hc dX7_restAt_4 rfl ?_
    refine j_bipush (v := (20 : Int32)) hc dX7_restAt_5 cb_20 ?_
    refine j_icmp_gt (tgt := 22) hc dX7_restAt_7 rfl hf (fun hf => ?_) (fun hf => ?_)
    · refine j_iconst (v := (0 : Int32)) hc dX7_restAt_22 ci_0 ?_
      exact j_ireturn hc dX7_restAt_23 rfl rfl hf
    · refine j_aload_n hc dX7_restAt_10 rfl ?_
      refine j_getR (u := 3) hc dX7_restAt_11 (fgC_X7_30_39 _) (rC_39_0 _) ?_
      refine j_getR (u := 12) hc dX7_restAt_14 (fgC_X7_51_3 _) (rC_3_13 _) ?_
      refine j_iload_n hc dX7_restAt_17 rfl ?_
      refine j_iaload (n := 21) hc dX7_restAt_18 (kC_12 _) hf (fun v1 hf => ?_)
      refine j_goto (tgt := 23) hc dX7_restAt_19 rfl ?_
      exact j_ireturn hc dX7_restAt_23 rfl rfl hf

set_option maxRecDepth 100000 in
theorem qX7_restAt (l : Launch) {al : Bool} (n d : Nat) (a1 : Int32) (I : am_I) (L : am_L) (r : Int32) (I' : am_I) (L' : am_L) (hf : fX7_restAt n d a1 I L = some (r, I', L')) : am_C l yX7_restAt cX7_restAt 2 (some .int) (d + 1) [.ref 39, .int a1] (KC al) (RC al) I L (some (.int r)) I' L' := by
  exact am_intro (plainFor_of_name plX7) (fun _ _ => trivial) (Nat.le_of_ble_eq_true rfl) (fun x hl hc => by subst hl; exact j_sub (tX7_restAt n d hc _ _ _ hf) (And.intro rfl (And.intro rfl (trivial))))
set_option maxRecDepth 100000 in
def fX3_has (n d : Nat) (a1 : Int32) (I : am_I) (L : am_L) : Option (Int32 × am_I × am_L) :=
  if a1 < 0 then
    (some ((0 : Int32), I, L))
    else
    (if (I 29 5) ≤ a1 then
      (some ((0 : Int32), I, L))
      else
      (if (4 : Int32) ≤ a1 then
        (some ((0 : Int32), I, L))
        else
        (some ((1 : Int32), I, L))))

set_option maxRecDepth 100000 in
set_option maxHeartbeats 4000000 in
theorem tX3_has {x : am_X} {al : Bool} (n d : Nat) (hc : am_ok x cX3_has yX3_has 2 (some .boolean) (d + 1) 0 0) {r : Int32} {I' : am_I} {L' : am_L} (a1 : Int32) (I : am_I) (L : am_L) (hf : fX3_has n d a1 I L = some (r, I', L')) : am_J x (fun S => S = (some (.int r), (KC al), (RC al), I', L')) 0 [some (.ref 29), some (.int a1)] [] (KC al) (RC al) I L 0 0 := by
  unfold fX3_has at hf
  refine j_iload_n hc dX3_has_0 rfl ?_
  refine j_if_lt (tgt := 21) hc dX3_has_1 rfl hf (fun hf => ?_) (fun hf => ?_)
  · refine j_iconst (v := (0 : Int32)) hc dX3_has_21 ci_0 ?_
    exact j_zret hc dX3_has_22 rfl rfl (Or.inl rfl) hf
  · refine j_iload_n hc dX3_has_4 rfl ?_
    refine j_aload_n hc dX3_has_5 rfl ?_
    refine j_getI hc dX3_has_6 (fgC_X3_31_29 _) ?_
    refine j_icmp_ge (tgt := 21) hc dX3_has_9 rfl hf (fun hf => ?_) (fun hf => ?_)
    · refine j_iconst (v := (0 : Int32)) hc dX3_has_21 ci_0 ?_
      exact j_zret hc dX3_has_22 rfl rfl (Or.inl rfl) hf
    · refine j_iload_n hc dX3_has_12 rfl ?_
      refine j_iconst (v := (4 : Int32)) hc dX3_has_13 ci_4 ?_
      refine j_icmp_ge (tgt := 21) hc dX3_has_14 rfl hf (fun hf => ?_) (fun hf => ?_)
      · refine j_iconst (v := (0 : Int32)) hc dX3_has_21 ci_0 ?_
        exact j_zret hc dX3_has_22 rfl rfl (Or.inl rfl) hf
      · refine j_iconst (v := (1 : Int32)) hc dX3_has_17 ci_1 ?_
        refine j_goto (tgt := 22) hc dX3_has_18 rfl ?_
        exact j_zret hc dX3_has_22 rfl rfl (Or.inr rfl) hf

set_option maxRecDepth 100000 in
theorem qX3_has (l : Launch) {al : Bool} (n d : Nat) (a1 : Int32) (I : am_I) (L : am_L) (r : Int32) (I' : am_I) (L' : am_L) (hf : fX3_has n d a1 I L = some (r, I', L')) : am_C l yX3_has cX3_has 2 (some .boolean) (d + 1) [.ref 29, .int a1] (KC al) (RC al) I L (some (.int r)) I' L' := by
  exact am_intro (plainFor_of_name plX3) (fun _ _ => trivial) (Nat.le_of_ble_eq_true rfl) (fun x hl hc => by subst hl; exact j_sub (tX3_has n d hc _ _ _ hf) (And.intro rfl (And.intro rfl (trivial))))
set_option maxRecDepth 100000 in
def fX3_joined_b169 (n d : Nat) (a3 : Int64) (I : am_I) (L : am_L) : Option (Int32 × am_I × am_L) :=
  if (lg_cmp a3 (1000000 : Int64)) ≤ 0 then
    (if (0 : Int32) ≤ (lg_cmp a3 (-1000000 : Int64)) then
      (some (a3.toInt32, I, L))
      else
      (some ((-1000000 : Int32), I, L)))
    else
    (some ((1000000 : Int32), I, L))

set_option maxRecDepth 100000 in
set_option maxHeartbeats 4000000 in
theorem tX3_joined_b169 {x : am_X} {al : Bool} (n d : Nat) (hc : am_ok x cX3_joined yX3_joined 5 (some .int) (d + 1) 0 0) {r : Int32} {I' : am_I} {L' : am_L} (a3 : Int64) (I : am_I) (L : am_L) (hf : fX3_joined_b169 n d a3 I L = some (r, I', L')) : am_J x (fun S => S = (some (.int r), (KC al), (RC al), I', L')) 169 [none, none, none, some (.long a3), none] [] (KC al) (RC al) I L 0 0 := by
  unfold fX3_joined_b169 at hf
  refine j_lload_n hc dX3_joined_169 rfl ?_
  refine j_ldc2 (v := (1000000 : Int64)) hc dX3_joined_170 kw_846 ?_
  refine j_lcmp hc dX3_joined_173 ?_
  refine j_if_le (tgt := 182) hc dX3_joined_174 rfl hf (fun hf => ?_) (fun hf => ?_)
  · refine j_lload_n hc dX3_joined_182 rfl ?_
    refine j_ldc2 (v := (-1000000 : Int64)) hc dX3_joined_183 kw_848 ?_
    refine j_lcmp hc dX3_joined_186 ?_
    refine j_if_ge (tgt := 195) hc dX3_joined_187 rfl hf (fun hf => ?_) (fun hf => ?_)
    · refine j_lload_n hc dX3_joined_195 rfl ?_
      refine j_l2i hc dX3_joined_196 ?_
      exact j_ireturn hc dX3_joined_197 rfl rfl hf
    · refine j_ldc (v := (-1000000 : Int32)) hc dX3_joined_190 kw_849 ?_
      refine j_goto (tgt := 197) hc dX3_joined_192 rfl ?_
      exact j_ireturn hc dX3_joined_197 rfl rfl hf
  · refine j_ldc (v := (1000000 : Int32)) hc dX3_joined_177 kw_847 ?_
    refine j_goto (tgt := 197) hc dX3_joined_179 rfl ?_
    exact j_ireturn hc dX3_joined_197 rfl rfl hf

set_option maxRecDepth 100000 in
def fX3_joined_b165 (n d : Nat) (s0 : Int64) (I : am_I) (L : am_L) : Option (Int32 × am_I × am_L) :=
  am_lt s0 (fun v1 => fX3_joined_b169 n d v1 I L)

set_option maxRecDepth 100000 in
set_option maxHeartbeats 4000000 in
theorem tX3_joined_b165 {x : am_X} {al : Bool} (n d : Nat) (hc : am_ok x cX3_joined yX3_joined 5 (some .int) (d + 1) 0 0) {r : Int32} {I' : am_I} {L' : am_L} (s0 : Int64) (I : am_I) (L : am_L) (hf : fX3_joined_b165 n d s0 I L = some (r, I', L')) : am_J x (fun S => S = (some (.int r), (KC al), (RC al), I', L')) 165 [none, none, none, none, none] [.long s0] (KC al) (RC al) I L 0 0 := by
  unfold fX3_joined_b165 at hf
  refine j_lstore_n hc dX3_joined_165 (Nat.le_of_ble_eq_true rfl) hf (fun v1 hf => ?_)
  refine j_goto (tgt := 169) hc dX3_joined_166 rfl ?_
  exact j_sub (tX3_joined_b169 n d hc _ _ _ hf) (And.intro rfl (trivial))

set_option maxRecDepth 100000 in
def fX3_joined_b160 (n d : Nat) (I : am_I) (L : am_L) : Option (Int32 × am_I × am_L) :=
  fX3_joined_b165 n d (1 : Int64) I L

set_option maxRecDepth 100000 in
set_option maxHeartbeats 4000000 in
theorem tX3_joined_b160 {x : am_X} {al : Bool} (n d : Nat) (hc : am_ok x cX3_joined yX3_joined 5 (some .int) (d + 1) 0 0) {r : Int32} {I' : am_I} {L' : am_L} (I : am_I) (L : am_L) (hf : fX3_joined_b160 n d I L = some (r, I', L')) : am_J x (fun S => S = (some (.int r), (KC al), (RC al), I', L')) 160 [none, none, none, none, none] [] (KC al) (RC al) I L 0 0 := by
  unfold fX3_joined_b160 at hf
  refine j_lconst (v := (1 : Int64)) hc dX3_joined_160 cl__1 ?_
  refine j_goto (tgt := 165) hc dX3_joined_161 rfl ?_
  exact j_sub (tX3_joined_b165 n d hc _ _ _ hf) (trivial)

set_option maxRecDepth 100000 in
def fX3_joined_b148 (n d : Nat) (s0 : Int64) (I : am_I) (L : am_L) : Option (Int32 × am_I × am_L) :=
  am_lt s0 (fun v1 => fX3_joined_b169 n d v1 I L)

set_option maxRecDepth 100000 in
set_option maxHeartbeats 4000000 in
theorem tX3_joined_b148 {x : am_X} {al : Bool} (n d : Nat) (hc : am_ok x cX3_joined yX3_joined 5 (some .int) (d + 1) 0 0) {r : Int32} {I' : am_I} {L' : am_L} (s0 : Int64) (I : am_I) (L : am_L) (hf : fX3_joined_b148 n d s0 I L = some (r, I', L')) : am_J x (fun S => S = (some (.int r), (KC al), (RC al), I', L')) 148 [none, none, none, none, none] [.long s0] (KC al) (RC al) I L 0 0 := by
  unfold fX3_joined_b148 at hf
  refine j_lstore_n hc dX3_joined_148 (Nat.le_of_ble_eq_true rfl) hf (fun v1 hf => ?_)
  refine j_goto (tgt := 169) hc dX3_joined_149 rfl ?_
  exact j_sub (tX3_joined_b169 n d hc _ _ _ hf) (And.intro rfl (trivial))

set_option maxRecDepth 100000 in
def fX3_joined_b147 (n d : Nat) (I : am_I) (L : am_L) : Option (Int32 × am_I × am_L) :=
  fX3_joined_b148 n d (0 : Int64) I L

set_option maxRecDepth 100000 in
set_option maxHeartbeats 4000000 in
theorem tX3_joined_b147 {x : am_X} {al : Bool} (n d : Nat) (hc : am_ok x cX3_joined yX3_joined 5 (some .int) (d + 1) 0 0) {r : Int32} {I' : am_I} {L' : am_L} (I : am_I) (L : am_L) (hf : fX3_joined_b147 n d I L = some (r, I', L')) : am_J x (fun S => S = (some (.int r), (KC al), (RC al), I', L')) 147 [none, none, none, none, none] [] (KC al) (RC al) I L 0 0 := by
  unfold fX3_joined_b147 at hf
  refine j_lconst (v := (0 : Int64)) hc dX3_joined_147 cl__0 ?_
  exact j_sub (tX3_joined_b148 n d hc _ _ _ hf) (trivial)

set_option maxRecDepth 100000 in
def fX3_joined_b131 (n d : Nat) (s0 : Int64) (I : am_I) (L : am_L) : Option (Int32 × am_I × am_L) :=
  am_lt s0 (fun v1 => fX3_joined_b169 n d v1 I L)

set_option maxRecDepth 100000 in
set_option maxHeartbeats 4000000 in
theorem tX3_joined_b131 {x : am_X} {al : Bool} (n d : Nat) (hc : am_ok x cX3_joined yX3_joined 5 (some .int) (d + 1) 0 0) {r : Int32} {I' : am_I} {L' : am_L} (s0 : Int64) (I : am_I) (L : am_L) (hf : fX3_joined_b131 n d s0 I L = some (r, I', L')) : am_J x (fun S => S = (some (.int r), (KC al), (RC al), I', L')) 131 [none, none, none, none, none] [.long s0] (KC al) (RC al) I L 0 0 := by
  unfold fX3_joined_b131 at hf
  refine j_lstore_n hc dX3_joined_131 (Nat.le_of_ble_eq_true rfl) hf (fun v1 hf => ?_)
  refine j_goto (tgt := 169) hc dX3_joined_132 rfl ?_
  exact j_sub (tX3_joined_b169 n d hc _ _ _ hf) (And.intro rfl (trivial))

set_option maxRecDepth 100000 in
def fX3_joined_b117 (n d : Nat) (s0 : Int64) (I : am_I) (L : am_L) : Option (Int32 × am_I × am_L) :=
  am_lt s0 (fun v1 => fX3_joined_b169 n d v1 I L)

set_option maxRecDepth 100000 in
set_option maxHeartbeats 4000000 in
theorem tX3_joined_b117 {x : am_X} {al : Bool} (n d : Nat) (hc : am_ok x cX3_joined yX3_joined 5 (some .int) (d + 1) 0 0) {r : Int32} {I' : am_I} {L' : am_L} (s0 : Int64) (I : am_I) (L : am_L) (hf : fX3_joined_b117 n d s0 I L = some (r, I', L')) : am_J x (fun S => S = (some (.int r), (KC al), (RC al), I', L')) 117 [none, none, none, none, none] [.long s0] (KC al) (RC al) I L 0 0 := by
  unfold fX3_joined_b117 at hf
  refine j_lstore_n hc dX3_joined_117 (Nat.le_of_ble_eq_true rfl) hf (fun v1 hf => ?_)
  refine j_goto (tgt := 169) hc dX3_joined_118 rfl ?_
  exact j_sub (tX3_joined_b169 n d hc _ _ _ hf) (And.intro rfl (trivial))

set_option maxRecDepth 100000 in
def fX3_joined_b103 (n d : Nat) (s0 : Int64) (I : am_I) (L : am_L) : Option (Int32 × am_I × am_L) :=
  am_lt s0 (fun v1 => fX3_joined_b169 n d v1 I L)

set_option maxRecDepth 100000 in
set_option maxHeartbeats 4000000 in
theorem tX3_joined_b103 {x : am_X} {al : Bool} (n d : Nat) (hc : am_ok x cX3_joined yX3_joined 5 (some .int) (d + 1) 0 0) {r : Int32} {I' : am_I} {L' : am_L} (s0 : Int64) (I : am_I) (L : am_L) (hf : fX3_joined_b103 n d s0 I L = some (r, I', L')) : am_J x (fun S => S = (some (.int r), (KC al), (RC al), I', L')) 103 [none, none, none, none, none] [.long s0] (KC al) (RC al) I L 0 0 := by
  unfold fX3_joined_b103 at hf
  refine j_lstore_n hc dX3_joined_103 (Nat.le_of_ble_eq_true rfl) hf (fun v1 hf => ?_)
  refine j_goto (tgt := 169) hc dX3_joined_104 rfl ?_
  exact j_sub (tX3_joined_b169 n d hc _ _ _ hf) (And.intro rfl (trivial))

set_option maxRecDepth 100000 in
def fX3_joined_b89 (n d : Nat) (s0 : Int64) (I : am_I) (L : am_L) : Option (Int32 × am_I × am_L) :=
  am_lt s0 (fun v1 => fX3_joined_b169 n d v1 I L)

set_option maxRecDepth 100000 in
set_option maxHeartbeats 4000000 in
theorem tX3_joined_b89 {x : am_X} {al : Bool} (n d : Nat) (hc : am_ok x cX3_joined yX3_joined 5 (some .int) (d + 1) 0 0) {r : Int32} {I' : am_I} {L' : am_L} (s0 : Int64) (I : am_I) (L : am_L) (hf : fX3_joined_b89 n d s0 I L = some (r, I', L')) : am_J x (fun S => S = (some (.int r), (KC al), (RC al), I', L')) 89 [none, none, none, none, none] [.long s0] (KC al) (RC al) I L 0 0 := by
  unfold fX3_joined_b89 at hf
  refine j_lstore_n hc dX3_joined_89 (Nat.le_of_ble_eq_true rfl) hf (fun v1 hf => ?_)
  refine j_goto (tgt := 169) hc dX3_joined_90 rfl ?_
  exact j_sub (tX3_joined_b169 n d hc _ _ _ hf) (And.intro rfl (trivial))

set_option maxRecDepth 100000 in
def fX3_joined (n d : Nat) (a0 : Int32) (a1 : Int32) (a2 : Int32) (I : am_I) (L : am_L) : Option (Int32 × am_I × am_L) :=
  am_lt (0 : Int64) (fun v1 => am_sw a0 (-19) [if a1 = 0 then
        (if a2 = 0 then
          (fX3_joined_b165 n d (0 : Int64) I L)
          else
          (fX3_joined_b160 n d I L))
        else
        (fX3_joined_b160 n d I L), if a1 = 0 then
        (fX3_joined_b147 n d I L)
        else
        (if a2 = 0 then
          (fX3_joined_b147 n d I L)
          else
          (fX3_joined_b148 n d (1 : Int64) I L)), if a1 ≤ a2 then
        (fX3_joined_b131 n d (0 : Int64) I L)
        else
        (fX3_joined_b131 n d (1 : Int64) I L), if a2 ≤ a1 then
        (fX3_joined_b117 n d (0 : Int64) I L)
        else
        (fX3_joined_b117 n d (1 : Int64) I L), if a1 = a2 then
        (fX3_joined_b103 n d (1 : Int64) I L)
        else
        (fX3_joined_b103 n d (0 : Int64) I L), if a2 = 0 then
        (fX3_joined_b89 n d (0 : Int64) I L)
        else
        ((if a2 = 0 then none else fX3_joined_b89 n d (a1 / a2).toInt64 I L)), am_lt (a1.toInt64 * a2.toInt64) (fun v2 => fX3_joined_b169 n d v2 I L), am_lt ((a1 - a2).toInt64) (fun v3 => fX3_joined_b169 n d v3 I L), am_lt ((a1 + a2).toInt64) (fun v4 => fX3_joined_b169 n d v4 I L)] (fX3_joined_b169 n d v1 I L))

set_option maxRecDepth 100000 in
set_option maxHeartbeats 4000000 in
theorem tX3_joined {x : am_X} {al : Bool} (n d : Nat) (hc : am_ok x cX3_joined yX3_joined 5 (some .int) (d + 1) 0 0) {r : Int32} {I' : am_I} {L' : am_L} (a0 : Int32) (a1 : Int32) (a2 : Int32) (I : am_I) (L : am_L) (hf : fX3_joined n d a0 a1 a2 I L = some (r, I', L')) : am_J x (fun S => S = (some (.int r), (KC al), (RC al), I', L')) 0 [some (.int a0), some (.int a1), some (.int a2), none, none] [] (KC al) (RC al) I L 0 0 := by
  unfold fX3_joined at hf
  refine j_lconst (v := (0 : Int64)) hc dX3_joined_0 cl__0 ?_
  refine j_lstore_n hc dX3_joined_1 (Nat.le_of_ble_eq_true rfl) hf (fun v1 hf => ?_)
  refine j_iload_n hc dX3_joined_2 rfl ?_
  refine j_tab (lo := (-19)) (tgt := 169) hc dX3_joined_3 rfl rfl rfl hf (fun hf => ?_) (fun k K off tgt2 hK ho ht hf => ?_) (fun k off ho => ?_)
  · exact j_sub (tX3_joined_b169 n d hc _ _ _ hf) (And.intro rfl (trivial))
  · match k, hK, ho with
    | 0, hK, ho =>
      cases hK
      have ho : (149 : Int) = off := Option.some.inj ho
      subst ho
      have ht : tgt2 = 152 := by omega
      subst ht
      refine j_iload_n hc dX3_joined_152 rfl ?_
      refine j_if_ne (tgt := 160) hc dX3_joined_153 rfl hf (fun hf => ?_) (fun hf => ?_)
      · exact j_sub (tX3_joined_b160 n d hc _ _ hf) (trivial)
      · refine j_iload_n hc dX3_joined_156 rfl ?_
        refine j_if_eq (tgt := 164) hc dX3_joined_157 rfl hf (fun hf => ?_) (fun hf => ?_)
        · refine j_lconst (v := (0 : Int64)) hc dX3_joined_164 cl__0 ?_
          exact j_sub (tX3_joined_b165 n d hc _ _ _ hf) (trivial)
        · exact j_sub (tX3_joined_b160 n d hc _ _ hf) (trivial)
    | 1, hK, ho =>
      cases hK
      have ho : (132 : Int) = off := Option.some.inj ho
      subst ho
      have ht : tgt2 = 135 := by omega
      subst ht
      refine j_iload_n hc dX3_joined_135 rfl ?_
      refine j_if_eq (tgt := 147) hc dX3_joined_136 rfl hf (fun hf => ?_) (fun hf => ?_)
      · exact j_sub (tX3_joined_b147 n d hc _ _ hf) (trivial)
      · refine j_iload_n hc dX3_joined_139 rfl ?_
        refine j_if_eq (tgt := 147) hc dX3_joined_140 rfl hf (fun hf => ?_) (fun hf => ?_)
        · exact j_sub (tX3_joined_b147 n d hc _ _ hf) (trivial)
        · refine j_lconst (v := (1 : Int64)) hc dX3_joined_143 cl__1 ?_
          refine j_goto (tgt := 148) hc dX3_joined_144 rfl ?_
          exact j_sub (tX3_joined_b148 n d hc _ _ _ hf) (trivial)
    | 2, hK, ho =>
      cases hK
      have ho : (118 : Int) = off := Option.some.inj ho
      subst ho
      have ht : tgt2 = 121 := by omega
      subst ht
      refine j_iload_n hc dX3_joined_121 rfl ?_
      refine j_iload_n hc dX3_joined_122 rfl ?_
      refine j_icmp_le (tgt := 130) hc dX3_joined_123 rfl hf (fun hf => ?_) (fun hf => ?_)
      · refine j_lconst (v := (0 : Int64)) hc dX3_joined_130 cl__0 ?_
        exact j_sub (tX3_joined_b131 n d hc _ _ _ hf) (trivial)
      · refine j_lconst (v := (1 : Int64)) hc dX3_joined_126 cl__1 ?_
        refine j_goto (tgt := 131) hc dX3_joined_127 rfl ?_
        exact j_sub (tX3_joined_b131 n d hc _ _ _ hf) (trivial)
    | 3, hK, ho =>
      cases hK
      have ho : (104 : Int) = off := Option.some.inj ho
      subst ho
      have ht : tgt2 = 107 := by omega
      subst ht
      refine j_iload_n hc dX3_joined_107 rfl ?_
      refine j_iload_n hc dX3_joined_108 rfl ?_
      refine j_icmp_ge (tgt := 116) hc dX3_joined_109 rfl hf (fun hf => ?_) (fun hf => ?_)
      · refine j_lconst (v := (0 : Int64)) hc dX3_joined_116 cl__0 ?_
        exact j_sub (tX3_joined_b117 n d hc _ _ _ hf) (trivial)
      · refine j_lconst (v := (1 : Int64)) hc dX3_joined_112 cl__1 ?_
        refine j_goto (tgt := 117) hc dX3_joined_113 rfl ?_
        exact j_sub (tX3_joined_b117 n d hc _ _ _ hf) (trivial)
    | 4, hK, ho =>
      cases hK
      have ho : (90 : Int) = off := Option.some.inj ho
      subst ho
      have ht : tgt2 = 93 := by omega
      subst ht
      refine j_iload_n hc dX3_joined_93 rfl ?_
      refine j_iload_n hc dX3_joined_94 rfl ?_
      refine j_icmp_ne (tgt := 102) hc dX3_joined_95 rfl hf (fun hf => ?_) (fun hf => ?_)
      · refine j_lconst (v := (0 : Int64)) hc dX3_joined_102 cl__0 ?_
        exact j_sub (tX3_joined_b103 n d hc _ _ _ hf) (trivial)
      · refine j_lconst (v := (1 : Int64)) hc dX3_joined_98 cl__1 ?_
        refine j_goto (tgt := 103) hc dX3_joined_99 rfl ?_
        exact j_sub (tX3_joined_b103 n d hc _ _ _ hf) (trivial)
    | 5, hK, ho =>
      cases hK
      have ho : (74 : Int) = off := Option.some.inj ho
      subst ho
      have ht : tgt2 = 77 := by omega
      subst ht
      refine j_iload_n hc dX3_joined_77 rfl ?_
      refine j_if_ne (tgt := 85) hc dX3_joined_78 rfl hf (fun hf => ?_) (fun hf => ?_)
      · refine j_iload_n hc dX3_joined_85 rfl ?_
        refine j_iload_n hc dX3_joined_86 rfl ?_
        refine j_idiv hc dX3_joined_87 hf (fun hf => ?_)
        refine j_i2l hc dX3_joined_88 ?_
        exact j_sub (tX3_joined_b89 n d hc _ _ _ hf) (trivial)
      · refine j_lconst (v := (0 : Int64)) hc dX3_joined_81 cl__0 ?_
        refine j_goto (tgt := 89) hc dX3_joined_82 rfl ?_
        exact j_sub (tX3_joined_b89 n d hc _ _ _ hf) (trivial)
    | 6, hK, ho =>
      cases hK
      have ho : (65 : Int) = off := Option.some.inj ho
      subst ho
      have ht : tgt2 = 68 := by omega
      subst ht
      refine j_iload_n hc dX3_joined_68 rfl ?_
      refine j_i2l hc dX3_joined_69 ?_
      refine j_iload_n hc dX3_joined_70 rfl ?_
      refine j_i2l hc dX3_joined_71 ?_
      refine j_lmul hc dX3_joined_72 ?_
      refine j_lstore_n hc dX3_joined_73 (Nat.le_of_ble_eq_true rfl) hf (fun v2 hf => ?_)
      refine j_goto (tgt := 169) hc dX3_joined_74 rfl ?_
      exact j_sub (tX3_joined_b169 n d hc _ _ _ hf) (And.intro rfl (trivial))
    | 7, hK, ho =>
      cases hK
      have ho : (57 : Int) = off := Option.some.inj ho
      subst ho
      have ht : tgt2 = 60 := by omega
      subst ht
      refine j_iload_n hc dX3_joined_60 rfl ?_
      refine j_iload_n hc dX3_joined_61 rfl ?_
      refine j_isub hc dX3_joined_62 ?_
      refine j_i2l hc dX3_joined_63 ?_
      refine j_lstore_n hc dX3_joined_64 (Nat.le_of_ble_eq_true rfl) hf (fun v3 hf => ?_)
      refine j_goto (tgt := 169) hc dX3_joined_65 rfl ?_
      exact j_sub (tX3_joined_b169 n d hc _ _ _ hf) (And.intro rfl (trivial))
    | 8, hK, ho =>
      cases hK
      have ho : (49 : Int) = off := Option.some.inj ho
      subst ho
      have ht : tgt2 = 52 := by omega
      subst ht
      refine j_iload_n hc dX3_joined_52 rfl ?_
      refine j_iload_n hc dX3_joined_53 rfl ?_
      refine j_iadd hc dX3_joined_54 ?_
      refine j_i2l hc dX3_joined_55 ?_
      refine j_lstore_n hc dX3_joined_56 (Nat.le_of_ble_eq_true rfl) hf (fun v4 hf => ?_)
      refine j_goto (tgt := 169) hc dX3_joined_57 rfl ?_
      exact j_sub (tX3_joined_b169 n d hc _ _ _ hf) (And.intro rfl (trivial))
    | k + 9, hK, ho => simp at hK
  · match k, ho with
    | 0, ho => have ho : (149 : Int) = off := Option.some.inj ho; subst ho; exact ⟨152, rfl⟩
    | 1, ho => have ho : (132 : Int) = off := Option.some.inj ho; subst ho; exact ⟨135, rfl⟩
    | 2, ho => have ho : (118 : Int) = off := Option.some.inj ho; subst ho; exact ⟨121, rfl⟩
    | 3, ho => have ho : (104 : Int) = off := Option.some.inj ho; subst ho; exact ⟨107, rfl⟩
    | 4, ho => have ho : (90 : Int) = off := Option.some.inj ho; subst ho; exact ⟨93, rfl⟩
    | 5, ho => have ho : (74 : Int) = off := Option.some.inj ho; subst ho; exact ⟨77, rfl⟩
    | 6, ho => have ho : (65 : Int) = off := Option.some.inj ho; subst ho; exact ⟨68, rfl⟩
    | 7, ho => have ho : (57 : Int) = off := Option.some.inj ho; subst ho; exact ⟨60, rfl⟩
    | 8, ho => have ho : (49 : Int) = off := Option.some.inj ho; subst ho; exact ⟨52, rfl⟩
    | k + 9, ho => simp at ho

set_option maxRecDepth 100000 in
theorem qX3_joined (l : Launch) {al : Bool} (n d : Nat) (a0 : Int32) (a1 : Int32) (a2 : Int32) (I : am_I) (L : am_L) (r : Int32) (I' : am_I) (L' : am_L) (hf : fX3_joined n d a0 a1 a2 I L = some (r, I', L')) : am_C l yX3_joined cX3_joined 5 (some .int) (d + 1) [.int a0, .int a1, .int a2] (KC al) (RC al) I L (some (.int r)) I' L' := by
  exact am_intro (plainFor_of_name plX3) (fun _ _ => trivial) (Nat.le_of_ble_eq_true rfl) (fun x hl hc => by subst hl; exact j_sub (tX3_joined n d hc _ _ _ _ _ hf) (And.intro rfl (And.intro rfl (And.intro rfl (trivial)))))
set_option maxRecDepth 100000 in
def fX3_worth_b245 (n d : Nat) (k25 : Int32 → Nat → Int32 → Int32 → Int32 → am_I → am_L → Option (Int32 × am_I × am_L)) (a1 : Int32) (a2 : Nat) (a3 : Int32) (a4 : Int32) (a5 : Int32) (I : am_I) (L : am_L) : Option (Int32 × am_I × am_L) :=
  am_lt (a5 + (1 : Int32)) (fun v1 => k25 a1 a2 a3 a4 v1 I L)

set_option maxRecDepth 100000 in
set_option maxHeartbeats 4000000 in
theorem tX3_worth_b245 {x : am_X} {al : Bool} (n d : Nat) (hc : am_ok x cX3_worth yX3_worth 7 (some .int) (d + 2) 0 0) {r : Int32} {I' : am_I} {L' : am_L} (k25 : Int32 → Nat → Int32 → Int32 → Int32 → am_I → am_L → Option (Int32 × am_I × am_L)) (hk25 : ∀ (a1 : Int32) (a2 : Nat) (a3 : Int32) (a4 : Int32) (a5 : Int32) (ha2 : (KC al)[a2]? = some (.inr (0, 240))) (I : am_I) (L : am_L), k25 a1 a2 a3 a4 a5 I L = some (r, I', L') → am_J x (fun S => S = (some (.int r), (KC al), (RC al), I', L')) 25 [some (.ref 29), some (.int a1), some (.ref a2), some (.int a3), some (.int a4), some (.int a5), none] [] (KC al) (RC al) I L 0 0) (a1 : Int32) (a2 : Nat) (a3 : Int32) (a4 : Int32) (a5 : Int32) (ha2 : (KC al)[a2]? = some (.inr (0, 240))) (I : am_I) (L : am_L) (hf : fX3_worth_b245 n d k25 a1 a2 a3 a4 a5 I L = some (r, I', L')) : am_J x (fun S => S = (some (.int r), (KC al), (RC al), I', L')) 245 [some (.ref 29), some (.int a1), some (.ref a2), some (.int a3), some (.int a4), some (.int a5), none] [] (KC al) (RC al) I L 0 0 := by
  unfold fX3_worth_b245 at hf
  refine j_iinc (w := (1 : Int32)) hc dX3_worth_245 rfl ci_1 (Nat.le_of_ble_eq_true rfl) hf (fun v1 hf => ?_)
  refine j_goto (tgt := 25) hc dX3_worth_248 rfl ?_
  exact j_sub (hk25 _ _ _ _ _ ha2 _ _ hf) (And.intro rfl (And.intro rfl (And.intro rfl (And.intro rfl (And.intro rfl (And.intro rfl (trivial)))))))

set_option maxRecDepth 100000 in
def fX3_worth_b210 (n d : Nat) (k25 : Int32 → Nat → Int32 → Int32 → Int32 → am_I → am_L → Option (Int32 × am_I × am_L)) (a1 : Int32) (a2 : Nat) (a3 : Int32) (a4 : Int32) (a5 : Int32) (a6 : Int32) (I : am_I) (L : am_L) : Option (Int32 × am_I × am_L) :=
  if a3 < (2 : Int32) then
    (fX3_worth_b245 n d k25 a1 a2 a3 a4 a5 I L)
    else
    (am_lt (a3 + (-1 : Int32)) (fun v1 => am_ck (v1 - (1 : Int32)) 32 (am_lt (I 36 ((v1 - (1 : Int32))).toNatClampNeg) (fun v2 => am_ck v1 32 (am_lt (I 36 (v1).toNatClampNeg) (fun v3 => am_b3 (fX3_joined n d a6 v2 v3 I L) (fun v4 I4 L4 => am_ck (v1 - (1 : Int32)) 32 (am_lt (am_up I4 36 ((v1 - (1 : Int32))).toNatClampNeg v4) (fun I5 => fX3_worth_b245 n d k25 a1 a2 v1 a4 a5 I5 L4)))))))))

set_option maxRecDepth 100000 in
set_option maxHeartbeats 4000000 in
theorem tX3_worth_b210 {x : am_X} {al : Bool} (n d : Nat) (hc : am_ok x cX3_worth yX3_worth 7 (some .int) (d + 2) 0 0) {r : Int32} {I' : am_I} {L' : am_L} (k25 : Int32 → Nat → Int32 → Int32 → Int32 → am_I → am_L → Option (Int32 × am_I × am_L)) (hk25 : ∀ (a1 : Int32) (a2 : Nat) (a3 : Int32) (a4 : Int32) (a5 : Int32) (ha2 : (KC al)[a2]? = some (.inr (0, 240))) (I : am_I) (L : am_L), k25 a1 a2 a3 a4 a5 I L = some (r, I', L') → am_J x (fun S => S = (some (.int r), (KC al), (RC al), I', L')) 25 [some (.ref 29), some (.int a1), some (.ref a2), some (.int a3), some (.int a4), some (.int a5), none] [] (KC al) (RC al) I L 0 0) (a1 : Int32) (a2 : Nat) (a3 : Int32) (a4 : Int32) (a5 : Int32) (a6 : Int32) (ha2 : (KC al)[a2]? = some (.inr (0, 240))) (I : am_I) (L : am_L) (hf : fX3_worth_b210 n d k25 a1 a2 a3 a4 a5 a6 I L = some (r, I', L')) : am_J x (fun S => S = (some (.int r), (KC al), (RC al), I', L')) 210 [some (.ref 29), some (.int a1), some (.ref a2), some (.int a3), some (.int a4), some (.int a5), some (.int a6)] [] (KC al) (RC al) I L 0 0 := by
  unfold fX3_worth_b210 at hf
  refine j_iload_n hc dX3_worth_210 rfl ?_
  refine j_iconst (v := (2 : Int32)) hc dX3_worth_211 ci_2 ?_
  refine j_icmp_lt (tgt := 245) hc dX3_worth_212 rfl hf (fun hf => ?_) (fun hf => ?_)
  · exact j_sub (tX3_worth_b245 n d hc k25 hk25 _ _ _ _ _ ha2 _ _ hf) (And.intro rfl (And.intro rfl (And.intro rfl (And.intro rfl (And.intro rfl (And.intro rfl (trivial)))))))
  · refine j_iinc (w := (-1 : Int32)) hc dX3_worth_215 rfl ci_m1 (Nat.le_of_ble_eq_true rfl) hf (fun v1 hf => ?_)
    refine j_aload_n hc dX3_worth_218 rfl ?_
    refine j_getR (u := 36) hc dX3_worth_219 (fgC_X3_22_29 _) (rC_29_2 _) ?_
    refine j_iload_n hc dX3_worth_222 rfl ?_
    refine j_iconst (v := (1 : Int32)) hc dX3_worth_223 ci_1 ?_
    refine j_isub hc dX3_worth_224 ?_
    refine j_iload hc dX3_worth_225 rfl ?_
    refine j_aload_n hc dX3_worth_227 rfl ?_
    refine j_getR (u := 36) hc dX3_worth_228 (fgC_X3_22_29 _) (rC_29_2 _) ?_
    refine j_iload_n hc dX3_worth_231 rfl ?_
    refine j_iconst (v := (1 : Int32)) hc dX3_worth_232 ci_1 ?_
    refine j_isub hc dX3_worth_233 ?_
    refine j_iaload (n := 32) hc dX3_worth_234 (kC_36 _) hf (fun v2 hf => ?_)
    refine j_aload_n hc dX3_worth_235 rfl ?_
    refine j_getR (u := 36) hc dX3_worth_236 (fgC_X3_22_29 _) (rC_29_2 _) ?_
    refine j_iload_n hc dX3_worth_239 rfl ?_
    refine j_iaload (n := 32) hc dX3_worth_240 (kC_36 _) hf (fun v3 hf => ?_)
    refine j_callSI (As := [.int a6, .int v2, .int v3]) hc dX3_worth_241 kw_843 mX3_joined  rfl (by omega) (Nat.le_of_ble_eq_true rfl) (Nat.le_of_ble_eq_true rfl) ⟨Nat.le_refl _, Nat.le_refl _⟩ hf (fun v I' L' h => qX3_joined x.2.1 n d a6 v2 v3 I L v I' L' h) (fun v4 I4 L4 hf => ?_)
    refine j_iastore (n := 32) hc dX3_worth_244 (kC_36 _) hf (fun I5 hf => ?_)
    exact j_sub (tX3_worth_b245 n d hc k25 hk25 _ _ _ _ _ ha2 _ _ hf) (And.intro rfl (And.intro rfl (And.intro rfl (And.intro rfl (And.intro rfl (And.intro rfl (trivial)))))))

set_option maxRecDepth 100000 in
def fX3_worth_b206 (n d : Nat) (k25 : Int32 → Nat → Int32 → Int32 → Int32 → am_I → am_L → Option (Int32 × am_I × am_L)) (s1 : Int32) (s2 : Int32) (a1 : Int32) (a2 : Nat) (a3 : Int32) (a4 : Int32) (a5 : Int32) (I : am_I) (L : am_L) : Option (Int32 × am_I × am_L) :=
  am_ck s1 32 (am_lt (am_up I 36 (s1).toNatClampNeg s2) (fun I1 => fX3_worth_b245 n d k25 a1 a2 a3 a4 a5 I1 L))

set_option maxRecDepth 100000 in
set_option maxHeartbeats 4000000 in
theorem tX3_worth_b206 {x : am_X} {al : Bool} (n d : Nat) (hc : am_ok x cX3_worth yX3_worth 7 (some .int) (d + 2) 0 0) {r : Int32} {I' : am_I} {L' : am_L} (k25 : Int32 → Nat → Int32 → Int32 → Int32 → am_I → am_L → Option (Int32 × am_I × am_L)) (hk25 : ∀ (a1 : Int32) (a2 : Nat) (a3 : Int32) (a4 : Int32) (a5 : Int32) (ha2 : (KC al)[a2]? = some (.inr (0, 240))) (I : am_I) (L : am_L), k25 a1 a2 a3 a4 a5 I L = some (r, I', L') → am_J x (fun S => S = (some (.int r), (KC al), (RC al), I', L')) 25 [some (.ref 29), some (.int a1), some (.ref a2), some (.int a3), some (.int a4), some (.int a5), none] [] (KC al) (RC al) I L 0 0) (s1 : Int32) (s2 : Int32) (a1 : Int32) (a2 : Nat) (a3 : Int32) (a4 : Int32) (a5 : Int32) (ha2 : (KC al)[a2]? = some (.inr (0, 240))) (I : am_I) (L : am_L) (hf : fX3_worth_b206 n d k25 s1 s2 a1 a2 a3 a4 a5 I L = some (r, I', L')) : am_J x (fun S => S = (some (.int r), (KC al), (RC al), I', L')) 206 [some (.ref 29), some (.int a1), some (.ref a2), some (.int a3), some (.int a4), some (.int a5), none] [.int s2, .int s1, .ref 36] (KC al) (RC al) I L 0 0 := by
  unfold fX3_worth_b206 at hf
  refine j_iastore (n := 32) hc dX3_worth_206 (kC_36 _) hf (fun I1 hf => ?_)
  refine j_goto (tgt := 245) hc dX3_worth_207 rfl ?_
  exact j_sub (tX3_worth_b245 n d hc k25 hk25 _ _ _ _ _ ha2 _ _ hf) (And.intro rfl (And.intro rfl (And.intro rfl (And.intro rfl (And.intro rfl (And.intro rfl (trivial)))))))

set_option maxRecDepth 100000 in
def fX3_worth_b171 (n d : Nat) (k25 : Int32 → Nat → Int32 → Int32 → Int32 → am_I → am_L → Option (Int32 × am_I × am_L)) (a1 : Int32) (a2 : Nat) (a3 : Int32) (a4 : Int32) (a5 : Int32) (a6 : Int32) (I : am_I) (L : am_L) : Option (Int32 × am_I × am_L) :=
  if a6 = (-20 : Int32) then
    (if a3 < (1 : Int32) then
      (fX3_worth_b210 n d k25 a1 a2 a3 a4 a5 a6 I L)
      else
      (am_ck (a3 - (1 : Int32)) 32 (am_lt (I 36 ((a3 - (1 : Int32))).toNatClampNeg) (fun v1 => if v1 = 0 then
        (fX3_worth_b206 n d k25 (a3 - (1 : Int32)) (1 : Int32) a1 a2 a3 a4 a5 I L)
        else
        (fX3_worth_b206 n d k25 (a3 - (1 : Int32)) (0 : Int32) a1 a2 a3 a4 a5 I L)))))
    else
    (fX3_worth_b210 n d k25 a1 a2 a3 a4 a5 a6 I L)

set_option maxRecDepth 100000 in
set_option maxHeartbeats 4000000 in
theorem tX3_worth_b171 {x : am_X} {al : Bool} (n d : Nat) (hc : am_ok x cX3_worth yX3_worth 7 (some .int) (d + 2) 0 0) {r : Int32} {I' : am_I} {L' : am_L} (k25 : Int32 → Nat → Int32 → Int32 → Int32 → am_I → am_L → Option (Int32 × am_I × am_L)) (hk25 : ∀ (a1 : Int32) (a2 : Nat) (a3 : Int32) (a4 : Int32) (a5 : Int32) (ha2 : (KC al)[a2]? = some (.inr (0, 240))) (I : am_I) (L : am_L), k25 a1 a2 a3 a4 a5 I L = some (r, I', L') → am_J x (fun S => S = (some (.int r), (KC al), (RC al), I', L')) 25 [some (.ref 29), some (.int a1), some (.ref a2), some (.int a3), some (.int a4), some (.int a5), none] [] (KC al) (RC al) I L 0 0) (a1 : Int32) (a2 : Nat) (a3 : Int32) (a4 : Int32) (a5 : Int32) (a6 : Int32) (ha2 : (KC al)[a2]? = some (.inr (0, 240))) (I : am_I) (L : am_L) (hf : fX3_worth_b171 n d k25 a1 a2 a3 a4 a5 a6 I L = some (r, I', L')) : am_J x (fun S => S = (some (.int r), (KC al), (RC al), I', L')) 171 [some (.ref 29), some (.int a1), some (.ref a2), some (.int a3), some (.int a4), some (.int a5), some (.int a6)] [] (KC al) (RC al) I L 0 0 := by
  unfold fX3_worth_b171 at hf
  refine j_iload hc dX3_worth_171 rfl ?_
  refine j_bipush (v := (-20 : Int32)) hc dX3_worth_173 cb_m20 ?_
  refine j_icmp_ne (tgt := 210) hc dX3_worth_175 rfl hf (fun hf => ?_) (fun hf => ?_)
  · exact j_sub (tX3_worth_b210 n d hc k25 hk25 _ _ _ _ _ _ ha2 _ _ hf) (And.intro rfl (And.intro rfl (And.intro rfl (And.intro rfl (And.intro rfl (And.intro rfl (And.intro rfl (trivial))))))))
  · refine j_iload_n hc dX3_worth_178 rfl ?_
    refine j_iconst (v := (1 : Int32)) hc dX3_worth_179 ci_1 ?_
    refine j_icmp_lt (tgt := 210) hc dX3_worth_180 rfl hf (fun hf => ?_) (fun hf => ?_)
    · exact j_sub (tX3_worth_b210 n d hc k25 hk25 _ _ _ _ _ _ ha2 _ _ hf) (And.intro rfl (And.intro rfl (And.intro rfl (And.intro rfl (And.intro rfl (And.intro rfl (And.intro rfl (trivial))))))))
    · refine j_aload_n hc dX3_worth_183 rfl ?_
      refine j_getR (u := 36) hc dX3_worth_184 (fgC_X3_22_29 _) (rC_29_2 _) ?_
      refine j_iload_n hc dX3_worth_187 rfl ?_
      refine j_iconst (v := (1 : Int32)) hc dX3_worth_188 ci_1 ?_
      refine j_isub hc dX3_worth_189 ?_
      refine j_aload_n hc dX3_worth_190 rfl ?_
      refine j_getR (u := 36) hc dX3_worth_191 (fgC_X3_22_29 _) (rC_29_2 _) ?_
      refine j_iload_n hc dX3_worth_194 rfl ?_
      refine j_iconst (v := (1 : Int32)) hc dX3_worth_195 ci_1 ?_
      refine j_isub hc dX3_worth_196 ?_
      refine j_iaload (n := 32) hc dX3_worth_197 (kC_36 _) hf (fun v1 hf => ?_)
      refine j_if_ne (tgt := 205) hc dX3_worth_198 rfl hf (fun hf => ?_) (fun hf => ?_)
      · refine j_iconst (v := (0 : Int32)) hc dX3_worth_205 ci_0 ?_
        exact j_sub (tX3_worth_b206 n d hc k25 hk25 _ _ _ _ _ _ _ ha2 _ _ hf) (And.intro rfl (And.intro rfl (And.intro rfl (And.intro rfl (And.intro rfl (And.intro rfl (trivial)))))))
      · refine j_iconst (v := (1 : Int32)) hc dX3_worth_201 ci_1 ?_
        refine j_goto (tgt := 206) hc dX3_worth_202 rfl ?_
        exact j_sub (tX3_worth_b206 n d hc k25 hk25 _ _ _ _ _ _ _ ha2 _ _ hf) (And.intro rfl (And.intro rfl (And.intro rfl (And.intro rfl (And.intro rfl (And.intro rfl (trivial)))))))

set_option maxRecDepth 100000 in
def fX3_worth_b166 (n d : Nat) (k25 : Int32 → Nat → Int32 → Int32 → Int32 → am_I → am_L → Option (Int32 × am_I × am_L)) (s0 : Int32) (a1 : Int32) (a2 : Nat) (a3 : Int32) (a5 : Int32) (I : am_I) (L : am_L) : Option (Int32 × am_I × am_L) :=
  am_lt s0 (fun v1 => fX3_worth_b245 n d k25 a1 a2 a3 v1 a5 I L)

set_option maxRecDepth 100000 in
set_option maxHeartbeats 4000000 in
theorem tX3_worth_b166 {x : am_X} {al : Bool} (n d : Nat) (hc : am_ok x cX3_worth yX3_worth 7 (some .int) (d + 2) 0 0) {r : Int32} {I' : am_I} {L' : am_L} (k25 : Int32 → Nat → Int32 → Int32 → Int32 → am_I → am_L → Option (Int32 × am_I × am_L)) (hk25 : ∀ (a1 : Int32) (a2 : Nat) (a3 : Int32) (a4 : Int32) (a5 : Int32) (ha2 : (KC al)[a2]? = some (.inr (0, 240))) (I : am_I) (L : am_L), k25 a1 a2 a3 a4 a5 I L = some (r, I', L') → am_J x (fun S => S = (some (.int r), (KC al), (RC al), I', L')) 25 [some (.ref 29), some (.int a1), some (.ref a2), some (.int a3), some (.int a4), some (.int a5), none] [] (KC al) (RC al) I L 0 0) (s0 : Int32) (a1 : Int32) (a2 : Nat) (a3 : Int32) (a5 : Int32) (ha2 : (KC al)[a2]? = some (.inr (0, 240))) (I : am_I) (L : am_L) (hf : fX3_worth_b166 n d k25 s0 a1 a2 a3 a5 I L = some (r, I', L')) : am_J x (fun S => S = (some (.int r), (KC al), (RC al), I', L')) 166 [some (.ref 29), some (.int a1), some (.ref a2), some (.int a3), none, some (.int a5), none] [.int s0] (KC al) (RC al) I L 0 0 := by
  unfold fX3_worth_b166 at hf
  refine j_istore hc dX3_worth_166 (Nat.le_of_ble_eq_true rfl) hf (fun v1 hf => ?_)
  refine j_goto (tgt := 245) hc dX3_worth_168 rfl ?_
  exact j_sub (tX3_worth_b245 n d hc k25 hk25 _ _ _ _ _ ha2 _ _ hf) (And.intro rfl (And.intro rfl (And.intro rfl (And.intro rfl (And.intro rfl (And.intro rfl (trivial)))))))

set_option maxRecDepth 100000 in
def fX3_worth_b137 (n d : Nat) (k25 : Int32 → Nat → Int32 → Int32 → Int32 → am_I → am_L → Option (Int32 × am_I × am_L)) (a1 : Int32) (a2 : Nat) (a3 : Int32) (a4 : Int32) (a5 : Int32) (a6 : Int32) (I : am_I) (L : am_L) : Option (Int32 × am_I × am_L) :=
  if a6 = (-21 : Int32) then
    (if a3 < (1 : Int32) then
      (fX3_worth_b171 n d k25 a1 a2 a3 a4 a5 a6 I L)
      else
      (am_lt (a3 + (-1 : Int32)) (fun v1 => am_ck v1 32 (am_lt (I 36 (v1).toNatClampNeg) (fun v2 => if v2 = 0 then
        (fX3_worth_b166 n d k25 (1 : Int32) a1 a2 v1 a5 I L)
        else
        (fX3_worth_b166 n d k25 (0 : Int32) a1 a2 v1 a5 I L))))))
    else
    (fX3_worth_b171 n d k25 a1 a2 a3 a4 a5 a6 I L)

set_option maxRecDepth 100000 in
set_option maxHeartbeats 4000000 in
theorem tX3_worth_b137 {x : am_X} {al : Bool} (n d : Nat) (hc : am_ok x cX3_worth yX3_worth 7 (some .int) (d + 2) 0 0) {r : Int32} {I' : am_I} {L' : am_L} (k25 : Int32 → Nat → Int32 → Int32 → Int32 → am_I → am_L → Option (Int32 × am_I × am_L)) (hk25 : ∀ (a1 : Int32) (a2 : Nat) (a3 : Int32) (a4 : Int32) (a5 : Int32) (ha2 : (KC al)[a2]? = some (.inr (0, 240))) (I : am_I) (L : am_L), k25 a1 a2 a3 a4 a5 I L = some (r, I', L') → am_J x (fun S => S = (some (.int r), (KC al), (RC al), I', L')) 25 [some (.ref 29), some (.int a1), some (.ref a2), some (.int a3), some (.int a4), some (.int a5), none] [] (KC al) (RC al) I L 0 0) (a1 : Int32) (a2 : Nat) (a3 : Int32) (a4 : Int32) (a5 : Int32) (a6 : Int32) (ha2 : (KC al)[a2]? = some (.inr (0, 240))) (I : am_I) (L : am_L) (hf : fX3_worth_b137 n d k25 a1 a2 a3 a4 a5 a6 I L = some (r, I', L')) : am_J x (fun S => S = (some (.int r), (KC al), (RC al), I', L')) 137 [some (.ref 29), some (.int a1), some (.ref a2), some (.int a3), some (.int a4), some (.int a5), some (.int a6)] [] (KC al) (RC al) I L 0 0 := by
  unfold fX3_worth_b137 at hf
  refine j_iload hc dX3_worth_137 rfl ?_
  refine j_bipush (v := (-21 : Int32)) hc dX3_worth_139 cb_m21 ?_
  refine j_icmp_ne (tgt := 171) hc dX3_worth_141 rfl hf (fun hf => ?_) (fun hf => ?_)
  · exact j_sub (tX3_worth_b171 n d hc k25 hk25 _ _ _ _ _ _ ha2 _ _ hf) (And.intro rfl (And.intro rfl (And.intro rfl (And.intro rfl (And.intro rfl (And.intro rfl (And.intro rfl (trivial))))))))
  · refine j_iload_n hc dX3_worth_144 rfl ?_
    refine j_iconst (v := (1 : Int32)) hc dX3_worth_145 ci_1 ?_
    refine j_icmp_lt (tgt := 171) hc dX3_worth_146 rfl hf (fun hf => ?_) (fun hf => ?_)
    · exact j_sub (tX3_worth_b171 n d hc k25 hk25 _ _ _ _ _ _ ha2 _ _ hf) (And.intro rfl (And.intro rfl (And.intro rfl (And.intro rfl (And.intro rfl (And.intro rfl (And.intro rfl (trivial))))))))
    · refine j_iinc (w := (-1 : Int32)) hc dX3_worth_149 rfl ci_m1 (Nat.le_of_ble_eq_true rfl) hf (fun v1 hf => ?_)
      refine j_aload_n hc dX3_worth_152 rfl ?_
      refine j_getR (u := 36) hc dX3_worth_153 (fgC_X3_22_29 _) (rC_29_2 _) ?_
      refine j_iload_n hc dX3_worth_156 rfl ?_
      refine j_iaload (n := 32) hc dX3_worth_157 (kC_36 _) hf (fun v2 hf => ?_)
      refine j_if_ne (tgt := 165) hc dX3_worth_158 rfl hf (fun hf => ?_) (fun hf => ?_)
      · refine j_iconst (v := (0 : Int32)) hc dX3_worth_165 ci_0 ?_
        exact j_sub (tX3_worth_b166 n d hc k25 hk25 _ _ _ _ _ ha2 _ _ hf) (And.intro rfl (And.intro rfl (And.intro rfl (And.intro rfl (And.intro rfl (trivial))))))
      · refine j_iconst (v := (1 : Int32)) hc dX3_worth_161 ci_1 ?_
        refine j_goto (tgt := 166) hc dX3_worth_162 rfl ?_
        exact j_sub (tX3_worth_b166 n d hc k25 hk25 _ _ _ _ _ ha2 _ _ hf) (And.intro rfl (And.intro rfl (And.intro rfl (And.intro rfl (And.intro rfl (trivial))))))

set_option maxRecDepth 100000 in
def fX3_worth_b116 (n d : Nat) (k25 : Int32 → Nat → Int32 → Int32 → Int32 → am_I → am_L → Option (Int32 × am_I × am_L)) (a1 : Int32) (a2 : Nat) (a3 : Int32) (a4 : Int32) (a5 : Int32) (a6 : Int32) (I : am_I) (L : am_L) : Option (Int32 × am_I × am_L) :=
  if a6 = (-22 : Int32) then
    (if a3 < (1 : Int32) then
      (fX3_worth_b137 n d k25 a1 a2 a3 a4 a5 a6 I L)
      else
      (am_ck (a3 - (1 : Int32)) 32 (am_lt (I 36 ((a3 - (1 : Int32))).toNatClampNeg) (fun v1 => some (v1, I, L)))))
    else
    (fX3_worth_b137 n d k25 a1 a2 a3 a4 a5 a6 I L)

set_option maxRecDepth 100000 in
set_option maxHeartbeats 4000000 in
theorem tX3_worth_b116 {x : am_X} {al : Bool} (n d : Nat) (hc : am_ok x cX3_worth yX3_worth 7 (some .int) (d + 2) 0 0) {r : Int32} {I' : am_I} {L' : am_L} (k25 : Int32 → Nat → Int32 → Int32 → Int32 → am_I → am_L → Option (Int32 × am_I × am_L)) (hk25 : ∀ (a1 : Int32) (a2 : Nat) (a3 : Int32) (a4 : Int32) (a5 : Int32) (ha2 : (KC al)[a2]? = some (.inr (0, 240))) (I : am_I) (L : am_L), k25 a1 a2 a3 a4 a5 I L = some (r, I', L') → am_J x (fun S => S = (some (.int r), (KC al), (RC al), I', L')) 25 [some (.ref 29), some (.int a1), some (.ref a2), some (.int a3), some (.int a4), some (.int a5), none] [] (KC al) (RC al) I L 0 0) (a1 : Int32) (a2 : Nat) (a3 : Int32) (a4 : Int32) (a5 : Int32) (a6 : Int32) (ha2 : (KC al)[a2]? = some (.inr (0, 240))) (I : am_I) (L : am_L) (hf : fX3_worth_b116 n d k25 a1 a2 a3 a4 a5 a6 I L = some (r, I', L')) : am_J x (fun S => S = (some (.int r), (KC al), (RC al), I', L')) 116 [some (.ref 29), some (.int a1), some (.ref a2), some (.int a3), some (.int a4), some (.int a5), some (.int a6)] [] (KC al) (RC al) I L 0 0 := by
  unfold fX3_worth_b116 at hf
  refine j_iload hc dX3_worth_116 rfl ?_
  refine j_bipush (v := (-22 : Int32)) hc dX3_worth_118 cb_m22 ?_
  refine j_icmp_ne (tgt := 137) hc dX3_worth_120 rfl hf (fun hf => ?_) (fun hf => ?_)
  · exact j_sub (tX3_worth_b137 n d hc k25 hk25 _ _ _ _ _ _ ha2 _ _ hf) (And.intro rfl (And.intro rfl (And.intro rfl (And.intro rfl (And.intro rfl (And.intro rfl (And.intro rfl (trivial))))))))
  · refine j_iload_n hc dX3_worth_123 rfl ?_
    refine j_iconst (v := (1 : Int32)) hc dX3_worth_124 ci_1 ?_
    refine j_icmp_lt (tgt := 137) hc dX3_worth_125 rfl hf (fun hf => ?_) (fun hf => ?_)
    · exact j_sub (tX3_worth_b137 n d hc k25 hk25 _ _ _ _ _ _ ha2 _ _ hf) (And.intro rfl (And.intro rfl (And.intro rfl (And.intro rfl (And.intro rfl (And.intro rfl (And.intro rfl (trivial))))))))
    · refine j_aload_n hc dX3_worth_128 rfl ?_
      refine j_getR (u := 36) hc dX3_worth_129 (fgC_X3_22_29 _) (rC_29_2 _) ?_
      refine j_iload_n hc dX3_worth_132 rfl ?_
      refine j_iconst (v := (1 : Int32)) hc dX3_worth_133 ci_1 ?_
      refine j_isub hc dX3_worth_134 ?_
      refine j_iaload (n := 32) hc dX3_worth_135 (kC_36 _) hf (fun v1 hf => ?_)
      exact j_ireturn hc dX3_worth_136 rfl rfl hf

set_option maxRecDepth 100000 in
def fX3_worth_b109 (n d : Nat) (k25 : Int32 → Nat → Int32 → Int32 → Int32 → am_I → am_L → Option (Int32 × am_I × am_L)) (s1 : Int32) (s2 : Int32) (a1 : Int32) (a2 : Nat) (a3 : Int32) (a4 : Int32) (a5 : Int32) (I : am_I) (L : am_L) : Option (Int32 × am_I × am_L) :=
  am_ck s1 32 (am_lt (am_up I 36 (s1).toNatClampNeg s2) (fun I1 => am_lt (a3 + (1 : Int32)) (fun v2 => fX3_worth_b245 n d k25 a1 a2 v2 a4 a5 I1 L)))

set_option maxRecDepth 100000 in
set_option maxHeartbeats 4000000 in
theorem tX3_worth_b109 {x : am_X} {al : Bool} (n d : Nat) (hc : am_ok x cX3_worth yX3_worth 7 (some .int) (d + 2) 0 0) {r : Int32} {I' : am_I} {L' : am_L} (k25 : Int32 → Nat → Int32 → Int32 → Int32 → am_I → am_L → Option (Int32 × am_I × am_L)) (hk25 : ∀ (a1 : Int32) (a2 : Nat) (a3 : Int32) (a4 : Int32) (a5 : Int32) (ha2 : (KC al)[a2]? = some (.inr (0, 240))) (I : am_I) (L : am_L), k25 a1 a2 a3 a4 a5 I L = some (r, I', L') → am_J x (fun S => S = (some (.int r), (KC al), (RC al), I', L')) 25 [some (.ref 29), some (.int a1), some (.ref a2), some (.int a3), some (.int a4), some (.int a5), none] [] (KC al) (RC al) I L 0 0) (s1 : Int32) (s2 : Int32) (a1 : Int32) (a2 : Nat) (a3 : Int32) (a4 : Int32) (a5 : Int32) (ha2 : (KC al)[a2]? = some (.inr (0, 240))) (I : am_I) (L : am_L) (hf : fX3_worth_b109 n d k25 s1 s2 a1 a2 a3 a4 a5 I L = some (r, I', L')) : am_J x (fun S => S = (some (.int r), (KC al), (RC al), I', L')) 109 [some (.ref 29), some (.int a1), some (.ref a2), some (.int a3), some (.int a4), some (.int a5), none] [.int s2, .int s1, .ref 36] (KC al) (RC al) I L 0 0 := by
  unfold fX3_worth_b109 at hf
  refine j_iastore (n := 32) hc dX3_worth_109 (kC_36 _) hf (fun I1 hf => ?_)
  refine j_iinc (w := (1 : Int32)) hc dX3_worth_110 rfl ci_1 (Nat.le_of_ble_eq_true rfl) hf (fun v2 hf => ?_)
  refine j_goto (tgt := 245) hc dX3_worth_113 rfl ?_
  exact j_sub (tX3_worth_b245 n d hc k25 hk25 _ _ _ _ _ ha2 _ _ hf) (And.intro rfl (And.intro rfl (And.intro rfl (And.intro rfl (And.intro rfl (And.intro rfl (trivial)))))))

set_option maxRecDepth 100000 in
def fX3_worth_b67 (n d : Nat) (k25 : Int32 → Nat → Int32 → Int32 → Int32 → am_I → am_L → Option (Int32 × am_I × am_L)) (s0 : Int32) (a1 : Int32) (a2 : Nat) (a3 : Int32) (a5 : Int32) (I : am_I) (L : am_L) : Option (Int32 × am_I × am_L) :=
  am_lt s0 (fun v1 => fX3_worth_b245 n d k25 a1 a2 a3 v1 a5 I L)

set_option maxRecDepth 100000 in
set_option maxHeartbeats 4000000 in
theorem tX3_worth_b67 {x : am_X} {al : Bool} (n d : Nat) (hc : am_ok x cX3_worth yX3_worth 7 (some .int) (d + 2) 0 0) {r : Int32} {I' : am_I} {L' : am_L} (k25 : Int32 → Nat → Int32 → Int32 → Int32 → am_I → am_L → Option (Int32 × am_I × am_L)) (hk25 : ∀ (a1 : Int32) (a2 : Nat) (a3 : Int32) (a4 : Int32) (a5 : Int32) (ha2 : (KC al)[a2]? = some (.inr (0, 240))) (I : am_I) (L : am_L), k25 a1 a2 a3 a4 a5 I L = some (r, I', L') → am_J x (fun S => S = (some (.int r), (KC al), (RC al), I', L')) 25 [some (.ref 29), some (.int a1), some (.ref a2), some (.int a3), some (.int a4), some (.int a5), none] [] (KC al) (RC al) I L 0 0) (s0 : Int32) (a1 : Int32) (a2 : Nat) (a3 : Int32) (a5 : Int32) (ha2 : (KC al)[a2]? = some (.inr (0, 240))) (I : am_I) (L : am_L) (hf : fX3_worth_b67 n d k25 s0 a1 a2 a3 a5 I L = some (r, I', L')) : am_J x (fun S => S = (some (.int r), (KC al), (RC al), I', L')) 67 [some (.ref 29), some (.int a1), some (.ref a2), some (.int a3), none, some (.int a5), none] [.int s0] (KC al) (RC al) I L 0 0 := by
  unfold fX3_worth_b67 at hf
  refine j_istore hc dX3_worth_67 (Nat.le_of_ble_eq_true rfl) hf (fun v1 hf => ?_)
  refine j_goto (tgt := 245) hc dX3_worth_69 rfl ?_
  exact j_sub (tX3_worth_b245 n d hc k25 hk25 _ _ _ _ _ ha2 _ _ hf) (And.intro rfl (And.intro rfl (And.intro rfl (And.intro rfl (And.intro rfl (And.intro rfl (trivial)))))))

set_option maxRecDepth 100000 in
def fX3_worth_b25w (n d : Nat) (k25 : Int32 → Nat → Int32 → Int32 → Int32 → am_I → am_L → Option (Int32 × am_I × am_L)) (a1 : Int32) (a2 : Nat) (a3 : Int32) (a4 : Int32) (a5 : Int32) (I : am_I) (L : am_L) : Option (Int32 × am_I × am_L) :=
  am_ck a1 4 (am_lt (I 35 (a1).toNatClampNeg) (fun v1 => if v1 ≤ a5 then
    (some ((0 : Int32), I, L))
    else
    (if (240 : Int32) ≤ a5 then
      (some ((0 : Int32), I, L))
      else
      (am_ck a5 240 (am_lt (I a2 (a5).toNatClampNeg) (fun v2 => am_lt v2 (fun v3 => if a4 = 0 then
        (if v3 ≤ (-7 : Int32) then
          (fX3_worth_b116 n d k25 a1 a2 a3 a4 a5 v3 I L)
          else
          (if (32 : Int32) ≤ a3 then
            (fX3_worth_b116 n d k25 a1 a2 a3 a4 a5 v3 I L)
            else
            (if v3 < 0 then
              (am_ck ((-1 : Int32) - v3) 6 (am_lt (I 37 (((-1 : Int32) - v3)).toNatClampNeg) (fun v4 => fX3_worth_b109 n d k25 a3 v4 a1 a2 a3 a4 a5 I L)))
              else
              (fX3_worth_b109 n d k25 a3 v3 a1 a2 a3 a4 a5 I L))))
        else
        (if v3 = (-22 : Int32) then
          (fX3_worth_b67 n d k25 (0 : Int32) a1 a2 a3 a5 I L)
          else
          (fX3_worth_b67 n d k25 (1 : Int32) a1 a2 a3 a5 I L)))))))))

set_option maxRecDepth 100000 in
set_option maxHeartbeats 4000000 in
theorem tX3_worth_b25w {x : am_X} {al : Bool} (n d : Nat) (hc : am_ok x cX3_worth yX3_worth 7 (some .int) (d + 2) 0 0) {r : Int32} {I' : am_I} {L' : am_L} (k25 : Int32 → Nat → Int32 → Int32 → Int32 → am_I → am_L → Option (Int32 × am_I × am_L)) (hk25 : ∀ (a1 : Int32) (a2 : Nat) (a3 : Int32) (a4 : Int32) (a5 : Int32) (ha2 : (KC al)[a2]? = some (.inr (0, 240))) (I : am_I) (L : am_L), k25 a1 a2 a3 a4 a5 I L = some (r, I', L') → am_J x (fun S => S = (some (.int r), (KC al), (RC al), I', L')) 25 [some (.ref 29), some (.int a1), some (.ref a2), some (.int a3), some (.int a4), some (.int a5), none] [] (KC al) (RC al) I L 0 0) (a1 : Int32) (a2 : Nat) (a3 : Int32) (a4 : Int32) (a5 : Int32) (ha2 : (KC al)[a2]? = some (.inr (0, 240))) (I : am_I) (L : am_L) (hf : fX3_worth_b25w n d k25 a1 a2 a3 a4 a5 I L = some (r, I', L')) : am_J x (fun S => S = (some (.int r), (KC al), (RC al), I', L')) 25 [some (.ref 29), some (.int a1), some (.ref a2), some (.int a3), some (.int a4), some (.int a5), none] [] (KC al) (RC al) I L 0 0 := by
  unfold fX3_worth_b25w at hf
  refine j_iload hc dX3_worth_25 rfl ?_
  refine j_aload_n hc dX3_worth_27 rfl ?_
  refine j_getR (u := 35) hc dX3_worth_28 (fgC_X3_18_29 _) (rC_29_1 _) ?_
  refine j_iload_n hc dX3_worth_31 rfl ?_
  refine j_iaload (n := 4) hc dX3_worth_32 (kC_35 _) hf (fun v1 hf => ?_)
  refine j_icmp_ge (tgt := 251) hc dX3_worth_33 rfl hf (fun hf => ?_) (fun hf => ?_)
  · refine j_iconst (v := (0 : Int32)) hc dX3_worth_251 ci_0 ?_
    exact j_ireturn hc dX3_worth_252 rfl rfl hf
  · refine j_iload hc dX3_worth_36 rfl ?_
    refine j_sipush (v := (240 : Int32)) hc dX3_worth_38 cs_240 ?_
    refine j_icmp_ge (tgt := 251) hc dX3_worth_41 rfl hf (fun hf => ?_) (fun hf => ?_)
    · refine j_iconst (v := (0 : Int32)) hc dX3_worth_251 ci_0 ?_
      exact j_ireturn hc dX3_worth_252 rfl rfl hf
    · refine j_aload_n hc dX3_worth_44 rfl ?_
      refine j_iload hc dX3_worth_45 rfl ?_
      refine j_iaload (n := 240) hc dX3_worth_47 ha2 hf (fun v2 hf => ?_)
      refine j_istore hc dX3_worth_48 (Nat.le_of_ble_eq_true rfl) hf (fun v3 hf => ?_)
      refine j_iload hc dX3_worth_50 rfl ?_
      refine j_if_eq (tgt := 72) hc dX3_worth_52 rfl hf (fun hf => ?_) (fun hf => ?_)
      · refine j_iload hc dX3_worth_72 rfl ?_
        refine j_bipush (v := (-7 : Int32)) hc dX3_worth_74 cb_m7 ?_
        refine j_icmp_le (tgt := 116) hc dX3_worth_76 rfl hf (fun hf => ?_) (fun hf => ?_)
        · exact j_sub (tX3_worth_b116 n d hc k25 hk25 _ _ _ _ _ _ ha2 _ _ hf) (And.intro rfl (And.intro rfl (And.intro rfl (And.intro rfl (And.intro rfl (And.intro rfl (And.intro rfl (trivial))))))))
        · refine j_iload_n hc dX3_worth_79 rfl ?_
          refine j_bipush (v := (32 : Int32)) hc dX3_worth_80 cb_32 ?_
          refine j_icmp_ge (tgt := 116) hc dX3_worth_82 rfl hf (fun hf => ?_) (fun hf => ?_)
          · exact j_sub (tX3_worth_b116 n d hc k25 hk25 _ _ _ _ _ _ ha2 _ _ hf) (And.intro rfl (And.intro rfl (And.intro rfl (And.intro rfl (And.intro rfl (And.intro rfl (And.intro rfl (trivial))))))))
          · refine j_aload_n hc dX3_worth_85 rfl ?_
            refine j_getR (u := 36) hc dX3_worth_86 (fgC_X3_22_29 _) (rC_29_2 _) ?_
            refine j_iload_n hc dX3_worth_89 rfl ?_
            refine j_iload hc dX3_worth_90 rfl ?_
            refine j_if_lt (tgt := 100) hc dX3_worth_92 rfl hf (fun hf => ?_) (fun hf => ?_)
            · refine j_aload_n hc dX3_worth_100 rfl ?_
              refine j_getR (u := 37) hc dX3_worth_101 (fgC_X3_25_29 _) (rC_29_3 _) ?_
              refine j_iconst (v := (-1 : Int32)) hc dX3_worth_104 ci_m1 ?_
              refine j_iload hc dX3_worth_105 rfl ?_
              refine j_isub hc dX3_worth_107 ?_
              refine j_iaload (n := 6) hc dX3_worth_108 (kC_37 _) hf (fun v4 hf => ?_)
              exact j_sub (tX3_worth_b109 n d hc k25 hk25 _ _ _ _ _ _ _ ha2 _ _ hf) (And.intro rfl (And.intro rfl (And.intro rfl (And.intro rfl (And.intro rfl (And.intro rfl (trivial)))))))
            · refine j_iload hc dX3_worth_95 rfl ?_
              refine j_goto (tgt := 109) hc dX3_worth_97 rfl ?_
              exact j_sub (tX3_worth_b109 n d hc k25 hk25 _ _ _ _ _ _ _ ha2 _ _ hf) (And.intro rfl (And.intro rfl (And.intro rfl (And.intro rfl (And.intro rfl (And.intro rfl (trivial)))))))
      · refine j_iload hc dX3_worth_55 rfl ?_
        refine j_bipush (v := (-22 : Int32)) hc dX3_worth_57 cb_m22 ?_
        refine j_icmp_eq (tgt := 66) hc dX3_worth_59 rfl hf (fun hf => ?_) (fun hf => ?_)
        · refine j_iconst (v := (0 : Int32)) hc dX3_worth_66 ci_0 ?_
          exact j_sub (tX3_worth_b67 n d hc k25 hk25 _ _ _ _ _ ha2 _ _ hf) (And.intro rfl (And.intro rfl (And.intro rfl (And.intro rfl (And.intro rfl (trivial))))))
        · refine j_iconst (v := (1 : Int32)) hc dX3_worth_62 ci_1 ?_
          refine j_goto (tgt := 67) hc dX3_worth_63 rfl ?_
          exact j_sub (tX3_worth_b67 n d hc k25 hk25 _ _ _ _ _ ha2 _ _ hf) (And.intro rfl (And.intro rfl (And.intro rfl (And.intro rfl (And.intro rfl (trivial))))))

def fX3_worth_b25 (n d : Nat) : Nat → Int32 → Nat → Int32 → Int32 → Int32 → am_I → am_L → Option (Int32 × am_I × am_L)
  | 0 => fun _ _ _ _ _ _ _ => none
  | m + 1 => fX3_worth_b25w n d  (fX3_worth_b25 n d m)

set_option maxRecDepth 100000 in
theorem tX3_worth_b25 {x : am_X} {al : Bool} (n d : Nat) (hc : am_ok x cX3_worth yX3_worth 7 (some .int) (d + 2) 0 0) {r : Int32} {I' : am_I} {L' : am_L} (m : Nat) : ∀ (a1 : Int32) (a2 : Nat) (a3 : Int32) (a4 : Int32) (a5 : Int32) (ha2 : (KC al)[a2]? = some (.inr (0, 240))) (I : am_I) (L : am_L) (hf : fX3_worth_b25 n d m a1 a2 a3 a4 a5 I L = some (r, I', L')), am_J x (fun S => S = (some (.int r), (KC al), (RC al), I', L')) 25 [some (.ref 29), some (.int a1), some (.ref a2), some (.int a3), some (.int a4), some (.int a5), none] [] (KC al) (RC al) I L 0 0 := by
  induction m with
  | zero => intro a1 a2 a3 a4 a5 ha2 I L hf; exact (Option.some_ne_none _ hf.symm).elim
  | succ m ih => intro a1 a2 a3 a4 a5 ha2 I L hf; exact tX3_worth_b25w n d hc (fX3_worth_b25 n d m) ih a1 a2 a3 a4 a5 ha2 I L hf

set_option maxRecDepth 100000 in
def fX3_worth (n d : Nat) (a1 : Int32) (I : am_I) (L : am_L) : Option (Int32 × am_I × am_L) :=
  am_b3 (fX3_has n d a1 I L) (fun v1 I1 L1 => if v1 = 0 then
    (some ((0 : Int32), I1, L1))
    else
    (am_ck a1 4 (am_lt (31 + (a1).toNatClampNeg) (fun u2 => am_lt (0 : Int32) (fun v3 => am_lt (0 : Int32) (fun v4 => am_lt (0 : Int32) (fun v5 => fX3_worth_b25 n d n a1 u2 v3 v4 v5 I1 L1)))))))

set_option maxRecDepth 100000 in
set_option maxHeartbeats 4000000 in
theorem tX3_worth {x : am_X} {al : Bool} (n d : Nat) (hc : am_ok x cX3_worth yX3_worth 7 (some .int) (d + 2) 0 0) {r : Int32} {I' : am_I} {L' : am_L} (a1 : Int32) (I : am_I) (L : am_L) (hf : fX3_worth n d a1 I L = some (r, I', L')) : am_J x (fun S => S = (some (.int r), (KC al), (RC al), I', L')) 0 [some (.ref 29), some (.int a1), none, none, none, none, none] [] (KC al) (RC al) I L 0 0 := by
  unfold fX3_worth at hf
  refine j_aload_n hc dX3_worth_0 rfl ?_
  refine j_iload_n hc dX3_worth_1 rfl ?_
  refine j_callVI (t := 29) (As := [.int a1]) hc dX3_worth_2 kw_839 mX3_has (kC_29 _) clX3 rfl (by omega) (Nat.le_of_ble_eq_true rfl) (Nat.le_of_ble_eq_true rfl) ⟨Nat.le_refl _, Nat.le_refl _⟩ hf (fun v I' L' h => qX3_has x.2.1 n d a1 I L v I' L' h) (fun v1 I1 L1 hf => ?_)
  refine j_if_ne (tgt := 10) hc dX3_worth_5 rfl hf (fun hf => ?_) (fun hf => ?_)
  · refine j_aload_n hc dX3_worth_10 rfl ?_
    refine j_getR (u := 30) hc dX3_worth_11 (fgC_X3_15_29 _) (rC_29_0 _) ?_
    refine j_iload_n hc dX3_worth_14 rfl ?_
    refine j_aaload (t := 30) (n := 4) (b := 31) hc dX3_worth_15 (kC_30 _) (rR_30 _) hf (fun u2 hu2 hf => ?_)
    refine j_astore_n hc dX3_worth_16 (Nat.le_of_ble_eq_true rfl) ?_
    refine j_iconst (v := (0 : Int32)) hc dX3_worth_17 ci_0 ?_
    refine j_istore_n hc dX3_worth_18 (Nat.le_of_ble_eq_true rfl) hf (fun v3 hf => ?_)
    refine j_iconst (v := (0 : Int32)) hc dX3_worth_19 ci_0 ?_
    refine j_istore hc dX3_worth_20 (Nat.le_of_ble_eq_true rfl) hf (fun v4 hf => ?_)
    refine j_iconst (v := (0 : Int32)) hc dX3_worth_22 ci_0 ?_
    refine j_istore hc dX3_worth_23 (Nat.le_of_ble_eq_true rfl) hf (fun v5 hf => ?_)
    exact j_sub (tX3_worth_b25 n d hc n _ _ _ _ _ hu2 _ _ hf) (And.intro rfl (And.intro rfl (And.intro rfl (And.intro rfl (And.intro rfl (And.intro rfl (trivial)))))))
  · refine j_iconst (v := (0 : Int32)) hc dX3_worth_8 ci_0 ?_
    exact j_ireturn hc dX3_worth_9 rfl rfl hf

set_option maxRecDepth 100000 in
theorem qX3_worth (l : Launch) {al : Bool} (n d : Nat) (a1 : Int32) (I : am_I) (L : am_L) (r : Int32) (I' : am_I) (L' : am_L) (hf : fX3_worth n d a1 I L = some (r, I', L')) : am_C l yX3_worth cX3_worth 7 (some .int) (d + 2) [.ref 29, .int a1] (KC al) (RC al) I L (some (.int r)) I' L' := by
  exact am_intro (plainFor_of_name plX3) (fun _ _ => trivial) (Nat.le_of_ble_eq_true rfl) (fun x hl hc => by subst hl; exact j_sub (tX3_worth n d hc _ _ _ hf) (And.intro rfl (And.intro rfl (trivial))))
set_option maxRecDepth 100000 in
def fX7_isHomeBy (n d : Nat) (a1 : Int32) (a2 : Int32) (I : am_I) (L : am_L) : Option (Int32 × am_I × am_L) :=
  am_ck a2 8 (am_lt (I 40 (a2).toNatClampNeg) (fun v1 => am_ck (0 : Int32) 6 (am_lt (am_up I 37 ((0 : Int32)).toNatClampNeg v1) (fun I2 => am_ck a2 8 (am_lt (I2 7 (a2).toNatClampNeg) (fun v3 => am_ck (1 : Int32) 6 (am_lt (am_up I2 37 ((1 : Int32)).toNatClampNeg v3) (fun I4 => am_ck a2 8 (am_lt (I4 8 (a2).toNatClampNeg) (fun v5 => am_ck (2 : Int32) 6 (am_lt (am_up I4 37 ((2 : Int32)).toNatClampNeg v5) (fun I6 => am_ck a2 8 (am_lt (I6 9 (a2).toNatClampNeg) (fun v7 => am_ck (3 : Int32) 6 (am_lt (am_up I6 37 ((3 : Int32)).toNatClampNeg v7) (fun I8 => am_ck (4 : Int32) 6 (am_lt (am_up I8 37 ((4 : Int32)).toNatClampNeg (I8 39 5)) (fun I9 => am_ck a2 8 (am_lt (I9 4 (a2).toNatClampNeg) (fun v10 => am_ck (5 : Int32) 6 (am_lt (am_up I9 37 ((5 : Int32)).toNatClampNeg v10) (fun I11 => am_b3 (fX3_worth n d a1 I11 L) (fun v12 I12 L12 => if v12 ≤ 0 then
    (some ((0 : Int32), I12, L12))
    else
    (some ((1 : Int32), I12, L12)))))))))))))))))))))))))

set_option maxRecDepth 100000 in
set_option maxHeartbeats 4000000 in
theorem tX7_isHomeBy {x : am_X} {al : Bool} (n d : Nat) (hc : am_ok x cX7_isHomeBy yX7_isHomeBy 3 (some .boolean) (d + 3) 0 0) {r : Int32} {I' : am_I} {L' : am_L} (a1 : Int32) (a2 : Int32) (I : am_I) (L : am_L) (hf : fX7_isHomeBy n d a1 a2 I L = some (r, I', L')) : am_J x (fun S => S = (some (.int r), (KC al), (RC al), I', L')) 0 [some (.ref 39), some (.int a1), some (.int a2)] [] (KC al) (RC al) I L 0 0 := by
  unfold fX7_isHomeBy at hf
  refine j_aload_n hc dX7_isHomeBy_0 rfl ?_
  refine j_getR (u := 29) hc dX7_isHomeBy_1 (fgC_X7_34_39 _) (rC_39_1 _) ?_
  refine j_getR (u := 37) hc dX7_isHomeBy_4 (fgC_X7_66_29 _) (rC_29_3 _) ?_
  refine j_iconst (v := (0 : Int32)) hc dX7_isHomeBy_7 ci_0 ?_
  refine j_aload_n hc dX7_isHomeBy_8 rfl ?_
  refine j_getR (u := 40) hc dX7_isHomeBy_9 (fgC_X7_11_39 _) (rC_39_2 _) ?_
  refine j_iload_n hc dX7_isHomeBy_12 rfl ?_
  refine j_iaload (n := 8) hc dX7_isHomeBy_13 (kC_40 _) hf (fun v1 hf => ?_)
  refine j_iastore (n := 6) hc dX7_isHomeBy_14 (kC_37 _) hf (fun I2 hf => ?_)
  refine j_aload_n hc dX7_isHomeBy_15 rfl ?_
  refine j_getR (u := 29) hc dX7_isHomeBy_16 (fgC_X7_34_39 _) (rC_39_1 _) ?_
  refine j_getR (u := 37) hc dX7_isHomeBy_19 (fgC_X7_66_29 _) (rC_29_3 _) ?_
  refine j_iconst (v := (1 : Int32)) hc dX7_isHomeBy_22 ci_1 ?_
  refine j_aload_n hc dX7_isHomeBy_23 rfl ?_
  refine j_getR (u := 3) hc dX7_isHomeBy_24 (fgC_X7_30_39 _) (rC_39_0 _) ?_
  refine j_getR (u := 7) hc dX7_isHomeBy_27 (fgC_X7_69_3 _) (rC_3_8 _) ?_
  refine j_iload_n hc dX7_isHomeBy_30 rfl ?_
  refine j_iaload (n := 8) hc dX7_isHomeBy_31 (kC_7 _) hf (fun v3 hf => ?_)
  refine j_iastore (n := 6) hc dX7_isHomeBy_32 (kC_37 _) hf (fun I4 hf => ?_)
  refine j_aload_n hc dX7_isHomeBy_33 rfl ?_
  refine j_getR (u := 29) hc dX7_isHomeBy_34 (fgC_X7_34_39 _) (rC_39_1 _) ?_
  refine j_getR (u := 37) hc dX7_isHomeBy_37 (fgC_X7_66_29 _) (rC_29_3 _) ?_
  refine j_iconst (v := (2 : Int32)) hc dX7_isHomeBy_40 ci_2 ?_
  refine j_aload_n hc dX7_isHomeBy_41 rfl ?_
  refine j_getR (u := 3) hc dX7_isHomeBy_42 (fgC_X7_30_39 _) (rC_39_0 _) ?_
  refine j_getR (u := 8) hc dX7_isHomeBy_45 (fgC_X7_72_3 _) (rC_3_9 _) ?_
  refine j_iload_n hc dX7_isHomeBy_48 rfl ?_
  refine j_iaload (n := 8) hc dX7_isHomeBy_49 (kC_8 _) hf (fun v5 hf => ?_)
  refine j_iastore (n := 6) hc dX7_isHomeBy_50 (kC_37 _) hf (fun I6 hf => ?_)
  refine j_aload_n hc dX7_isHomeBy_51 rfl ?_
  refine j_getR (u := 29) hc dX7_isHomeBy_52 (fgC_X7_34_39 _) (rC_39_1 _) ?_
  refine j_getR (u := 37) hc dX7_isHomeBy_55 (fgC_X7_66_29 _) (rC_29_3 _) ?_
  refine j_iconst (v := (3 : Int32)) hc dX7_isHomeBy_58 ci_3 ?_
  refine j_aload_n hc dX7_isHomeBy_59 rfl ?_
  refine j_getR (u := 3) hc dX7_isHomeBy_60 (fgC_X7_30_39 _) (rC_39_0 _) ?_
  refine j_getR (u := 9) hc dX7_isHomeBy_63 (fgC_X7_75_3 _) (rC_3_10 _) ?_
  refine j_iload_n hc dX7_isHomeBy_66 rfl ?_
  refine j_iaload (n := 8) hc dX7_isHomeBy_67 (kC_9 _) hf (fun v7 hf => ?_)
  refine j_iastore (n := 6) hc dX7_isHomeBy_68 (kC_37 _) hf (fun I8 hf => ?_)
  refine j_aload_n hc dX7_isHomeBy_69 rfl ?_
  refine j_getR (u := 29) hc dX7_isHomeBy_70 (fgC_X7_34_39 _) (rC_39_1 _) ?_
  refine j_getR (u := 37) hc dX7_isHomeBy_73 (fgC_X7_66_29 _) (rC_29_3 _) ?_
  refine j_iconst (v := (4 : Int32)) hc dX7_isHomeBy_76 ci_4 ?_
  refine j_aload_n hc dX7_isHomeBy_77 rfl ?_
  refine j_getI hc dX7_isHomeBy_78 (fgC_X7_24_39 _) ?_
  refine j_iastore (n := 6) hc dX7_isHomeBy_81 (kC_37 _) hf (fun I9 hf => ?_)
  refine j_aload_n hc dX7_isHomeBy_82 rfl ?_
  refine j_getR (u := 29) hc dX7_isHomeBy_83 (fgC_X7_34_39 _) (rC_39_1 _) ?_
  refine j_getR (u := 37) hc dX7_isHomeBy_86 (fgC_X7_66_29 _) (rC_29_3 _) ?_
  refine j_iconst (v := (5 : Int32)) hc dX7_isHomeBy_89 ci_5 ?_
  refine j_aload_n hc dX7_isHomeBy_90 rfl ?_
  refine j_getR (u := 3) hc dX7_isHomeBy_91 (fgC_X7_30_39 _) (rC_39_0 _) ?_
  refine j_getR (u := 4) hc dX7_isHomeBy_94 (fgC_X7_78_3 _) (rC_3_5 _) ?_
  refine j_iload_n hc dX7_isHomeBy_97 rfl ?_
  refine j_iaload (n := 8) hc dX7_isHomeBy_98 (kC_4 _) hf (fun v10 hf => ?_)
  refine j_iastore (n := 6) hc dX7_isHomeBy_99 (kC_37 _) hf (fun I11 hf => ?_)
  refine j_aload_n hc dX7_isHomeBy_100 rfl ?_
  refine j_getR (u := 29) hc dX7_isHomeBy_101 (fgC_X7_34_39 _) (rC_39_1 _) ?_
  refine j_iload_n hc dX7_isHomeBy_104 rfl ?_
  refine j_callVI (t := 29) (As := [.int a1]) hc dX7_isHomeBy_105 kw_835 mX3_worth (kC_29 _) clX3 rfl (by omega) (Nat.le_of_ble_eq_true rfl) (Nat.le_of_ble_eq_true rfl) ⟨Nat.le_refl _, Nat.le_refl _⟩ hf (fun v I' L' h => qX3_worth x.2.1 n d a1 I11 L v I' L' h) (fun v12 I12 L12 hf => ?_)
  refine j_if_le (tgt := 115) hc dX7_isHomeBy_108 rfl hf (fun hf => ?_) (fun hf => ?_)
  · refine j_iconst (v := (0 : Int32)) hc dX7_isHomeBy_115 ci_0 ?_
    exact j_zret hc dX7_isHomeBy_116 rfl rfl (Or.inl rfl) hf
  · refine j_iconst (v := (1 : Int32)) hc dX7_isHomeBy_111 ci_1 ?_
    refine j_goto (tgt := 116) hc dX7_isHomeBy_112 rfl ?_
    exact j_zret hc dX7_isHomeBy_116 rfl rfl (Or.inr rfl) hf

set_option maxRecDepth 100000 in
theorem qX7_isHomeBy (l : Launch) {al : Bool} (n d : Nat) (a1 : Int32) (a2 : Int32) (I : am_I) (L : am_L) (r : Int32) (I' : am_I) (L' : am_L) (hf : fX7_isHomeBy n d a1 a2 I L = some (r, I', L')) : am_C l yX7_isHomeBy cX7_isHomeBy 3 (some .boolean) (d + 3) [.ref 39, .int a1, .int a2] (KC al) (RC al) I L (some (.int r)) I' L' := by
  exact am_intro (plainFor_of_name plX7) (fun _ _ => trivial) (Nat.le_of_ble_eq_true rfl) (fun x hl hc => by subst hl; exact j_sub (tX7_isHomeBy n d hc _ _ _ _ hf) (And.intro rfl (And.intro rfl (And.intro rfl (trivial)))))
set_option maxRecDepth 100000 in
def fX7_lookAt_b67 (n d : Nat) (s1 : Int32) (I : am_I) (L : am_L) : Option (am_I × am_L) :=
  am_lt (am_up I 39 6 s1) (fun I1 => some (I1, L))

set_option maxRecDepth 100000 in
set_option maxHeartbeats 4000000 in
theorem tX7_lookAt_b67 {x : am_X} {al : Bool} (n d : Nat) (hc : am_ok x cX7_lookAt yX7_lookAt 3 none (d + 4) 0 0) {I' : am_I} {L' : am_L} (s1 : Int32) (I : am_I) (L : am_L) (hf : fX7_lookAt_b67 n d s1 I L = some (I', L')) : am_J x (fun S => S = (none, (KC al), (RC al), I', L')) 67 [none, none, none] [.int s1, .ref 39] (KC al) (RC al) I L 0 0 := by
  unfold fX7_lookAt_b67 at hf
  refine j_putI hc dX7_lookAt_67 (fpC_X7_27_39 _) rfl rfl hf (fun I1 hf => ?_)
  exact j_return hc dX7_lookAt_70 rfl rfl hf

set_option maxRecDepth 100000 in
def fX7_lookAt_b40 (n d : Nat) (s0 : Int32) (a1 : Int32) (I : am_I) (L : am_L) : Option (am_I × am_L) :=
  am_lt s0 (fun v1 => if v1 = 0 then
    (fX7_lookAt_b67 n d ((I 39 6) &&& (((1 : Int32) <<< (a1 &&& 31)) ^^^ (-1 : Int32))) I L)
    else
    (fX7_lookAt_b67 n d ((I 39 6) ||| ((1 : Int32) <<< (a1 &&& 31))) I L))

set_option maxRecDepth 100000 in
set_option maxHeartbeats 4000000 in
theorem tX7_lookAt_b40 {x : am_X} {al : Bool} (n d : Nat) (hc : am_ok x cX7_lookAt yX7_lookAt 3 none (d + 4) 0 0) {I' : am_I} {L' : am_L} (s0 : Int32) (a1 : Int32) (I : am_I) (L : am_L) (hf : fX7_lookAt_b40 n d s0 a1 I L = some (I', L')) : am_J x (fun S => S = (none, (KC al), (RC al), I', L')) 40 [some (.ref 39), some (.int a1), none] [.int s0] (KC al) (RC al) I L 0 0 := by
  unfold fX7_lookAt_b40 at hf
  refine j_istore_n hc dX7_lookAt_40 (Nat.le_of_ble_eq_true rfl) hf (fun v1 hf => ?_)
  refine j_aload_n hc dX7_lookAt_41 rfl ?_
  refine j_iload_n hc dX7_lookAt_42 rfl ?_
  refine j_if_eq (tgt := 57) hc dX7_lookAt_43 rfl hf (fun hf => ?_) (fun hf => ?_)
  · refine j_aload_n hc dX7_lookAt_57 rfl ?_
    refine j_getI hc dX7_lookAt_58 (fgC_X7_27_39 _) ?_
    refine j_iconst (v := (1 : Int32)) hc dX7_lookAt_61 ci_1 ?_
    refine j_iload_n hc dX7_lookAt_62 rfl ?_
    refine j_ishl hc dX7_lookAt_63 ?_
    refine j_iconst (v := (-1 : Int32)) hc dX7_lookAt_64 ci_m1 ?_
    refine j_ixor hc dX7_lookAt_65 ?_
    refine j_iand hc dX7_lookAt_66 ?_
    exact j_sub (tX7_lookAt_b67 n d hc _ _ _ hf) (trivial)
  · refine j_aload_n hc dX7_lookAt_46 rfl ?_
    refine j_getI hc dX7_lookAt_47 (fgC_X7_27_39 _) ?_
    refine j_iconst (v := (1 : Int32)) hc dX7_lookAt_50 ci_1 ?_
    refine j_iload_n hc dX7_lookAt_51 rfl ?_
    refine j_ishl hc dX7_lookAt_52 ?_
    refine j_ior hc dX7_lookAt_53 ?_
    refine j_goto (tgt := 67) hc dX7_lookAt_54 rfl ?_
    exact j_sub (tX7_lookAt_b67 n d hc _ _ _ hf) (trivial)

set_option maxRecDepth 100000 in
def fX7_lookAt (n d : Nat) (a1 : Int32) (I : am_I) (L : am_L) : Option (am_I × am_L) :=
  if (I 29 6) = (-1 : Int32) then
    (am_ck a1 8 (am_lt (I 40 (a1).toNatClampNeg) (fun v2 => if v2 = 0 then
      (fX7_lookAt_b40 n d (1 : Int32) a1 I L)
      else
      (fX7_lookAt_b40 n d (0 : Int32) a1 I L))))
    else
    (am_b3 (fX7_isHomeBy n d (I 29 6) a1 I L) (fun v1 I1 L1 => fX7_lookAt_b40 n d v1 a1 I1 L1))

set_option maxRecDepth 100000 in
set_option maxHeartbeats 4000000 in
theorem tX7_lookAt {x : am_X} {al : Bool} (n d : Nat) (hc : am_ok x cX7_lookAt yX7_lookAt 3 none (d + 4) 0 0) {I' : am_I} {L' : am_L} (a1 : Int32) (I : am_I) (L : am_L) (hf : fX7_lookAt n d a1 I L = some (I', L')) : am_J x (fun S => S = (none, (KC al), (RC al), I', L')) 0 [some (.ref 39), some (.int a1), none] [] (KC al) (RC al) I L 0 0 := by
  unfold fX7_lookAt at hf
  refine j_aload_n hc dX7_lookAt_0 rfl ?_
  refine j_getR (u := 29) hc dX7_lookAt_1 (fgC_X7_34_39 _) (rC_39_1 _) ?_
  refine j_getI hc dX7_lookAt_4 (fgC_X7_57_29 _) ?_
  refine j_iconst (v := (-1 : Int32)) hc dX7_lookAt_7 ci_m1 ?_
  refine j_icmp_ne (tgt := 28) hc dX7_lookAt_8 rfl hf (fun hf => ?_) (fun hf => ?_)
  · refine j_aload_n hc dX7_lookAt_28 rfl ?_
    refine j_aload_n hc dX7_lookAt_29 rfl ?_
    refine j_getR (u := 29) hc dX7_lookAt_30 (fgC_X7_34_39 _) (rC_39_1 _) ?_
    refine j_getI hc dX7_lookAt_33 (fgC_X7_57_29 _) ?_
    refine j_iload_n hc dX7_lookAt_36 rfl ?_
    refine j_callVI (t := 39) (As := [.int (I 29 6), .int a1]) hc dX7_lookAt_37 kw_831 mX7_isHomeBy (kC_39 _) clX7 rfl (by omega) (Nat.le_of_ble_eq_true rfl) (Nat.le_of_ble_eq_true rfl) ⟨Nat.le_refl _, Nat.le_refl _⟩ hf (fun v I' L' h => qX7_isHomeBy x.2.1 n d (I 29 6) a1 I L v I' L' h) (fun v1 I1 L1 hf => ?_)
    exact j_sub (tX7_lookAt_b40 n d hc _ _ _ _ hf) (And.intro rfl (And.intro rfl (trivial)))
  · refine j_aload_n hc dX7_lookAt_11 rfl ?_
    refine j_getR (u := 40) hc dX7_lookAt_12 (fgC_X7_11_39 _) (rC_39_2 _) ?_
    refine j_iload_n hc dX7_lookAt_15 rfl ?_
    refine j_iaload (n := 8) hc dX7_lookAt_16 (kC_40 _) hf (fun v2 hf => ?_)
    refine j_if_ne (tgt := 24) hc dX7_lookAt_17 rfl hf (fun hf => ?_) (fun hf => ?_)
    · refine j_iconst (v := (0 : Int32)) hc dX7_lookAt_24 ci_0 ?_
      refine j_goto (tgt := 40) hc dX7_lookAt_25 rfl ?_
      exact j_sub (tX7_lookAt_b40 n d hc _ _ _ _ hf) (And.intro rfl (And.intro rfl (trivial)))
    · refine j_iconst (v := (1 : Int32)) hc dX7_lookAt_20 ci_1 ?_
      refine j_goto (tgt := 40) hc dX7_lookAt_21 rfl ?_
      exact j_sub (tX7_lookAt_b40 n d hc _ _ _ _ hf) (And.intro rfl (And.intro rfl (trivial)))

set_option maxRecDepth 100000 in
theorem qX7_lookAt (l : Launch) {al : Bool} (n d : Nat) (a1 : Int32) (I : am_I) (L : am_L) (I' : am_I) (L' : am_L) (hf : fX7_lookAt n d a1 I L = some (I', L')) : am_C l yX7_lookAt cX7_lookAt 3 none (d + 4) [.ref 39, .int a1] (KC al) (RC al) I L none I' L' := by
  exact am_intro (plainFor_of_name plX7) (fun _ _ => trivial) (Nat.le_of_ble_eq_true rfl) (fun x hl hc => by subst hl; exact j_sub (tX7_lookAt n d hc _ _ _ hf) (And.intro rfl (And.intro rfl (trivial))))
set_option maxRecDepth 100000 in
def fX7_lookAtAll_b2w (n d : Nat) (k2 : Int32 → am_I → am_L → Option (am_I × am_L)) (a1 : Int32) (I : am_I) (L : am_L) : Option (am_I × am_L) :=
  if (I 3 0) ≤ a1 then
    (some (I, L))
    else
    (am_b2 (fX7_lookAt n d a1 I L) (fun I1 L1 => am_lt (a1 + (1 : Int32)) (fun v2 => k2 v2 I1 L1)))

set_option maxRecDepth 100000 in
set_option maxHeartbeats 4000000 in
theorem tX7_lookAtAll_b2w {x : am_X} {al : Bool} (n d : Nat) (hc : am_ok x cX7_lookAtAll yX7_lookAtAll 2 none (d + 5) 0 0) {I' : am_I} {L' : am_L} (k2 : Int32 → am_I → am_L → Option (am_I × am_L)) (hk2 : ∀ (a1 : Int32) (I : am_I) (L : am_L), k2 a1 I L = some (I', L') → am_J x (fun S => S = (none, (KC al), (RC al), I', L')) 2 [some (.ref 39), some (.int a1)] [] (KC al) (RC al) I L 0 0) (a1 : Int32) (I : am_I) (L : am_L) (hf : fX7_lookAtAll_b2w n d k2 a1 I L = some (I', L')) : am_J x (fun S => S = (none, (KC al), (RC al), I', L')) 2 [some (.ref 39), some (.int a1)] [] (KC al) (RC al) I L 0 0 := by
  unfold fX7_lookAtAll_b2w at hf
  refine j_iload_n hc dX7_lookAtAll_2 rfl ?_
  refine j_aload_n hc dX7_lookAtAll_3 rfl ?_
  refine j_getR (u := 3) hc dX7_lookAtAll_4 (fgC_X7_30_39 _) (rC_39_0 _) ?_
  refine j_getI hc dX7_lookAtAll_7 (fgC_X7_38_3 _) ?_
  refine j_icmp_ge (tgt := 24) hc dX7_lookAtAll_10 rfl hf (fun hf => ?_) (fun hf => ?_)
  · exact j_return hc dX7_lookAtAll_24 rfl rfl hf
  · refine j_aload_n hc dX7_lookAtAll_13 rfl ?_
    refine j_iload_n hc dX7_lookAtAll_14 rfl ?_
    refine j_callVV (t := 39) (As := [.int a1]) hc dX7_lookAtAll_15 kw_827 mX7_lookAt (kC_39 _) clX7 rfl (by omega) (Nat.le_of_ble_eq_true rfl) (Nat.le_of_ble_eq_true rfl) ⟨Nat.le_refl _, Nat.le_refl _⟩ hf (fun I' L' h => qX7_lookAt x.2.1 n d a1 I L I' L' h) (fun I1 L1 hf => ?_)
    refine j_iinc (w := (1 : Int32)) hc dX7_lookAtAll_18 rfl ci_1 (Nat.le_of_ble_eq_true rfl) hf (fun v2 hf => ?_)
    refine j_goto (tgt := 2) hc dX7_lookAtAll_21 rfl ?_
    exact j_sub (hk2 _ _ _ hf) (And.intro rfl (And.intro rfl (trivial)))

def fX7_lookAtAll_b2 (n d : Nat) : Nat → Int32 → am_I → am_L → Option (am_I × am_L)
  | 0 => fun _ _ _ => none
  | m + 1 => fX7_lookAtAll_b2w n d  (fX7_lookAtAll_b2 n d m)

set_option maxRecDepth 100000 in
theorem tX7_lookAtAll_b2 {x : am_X} {al : Bool} (n d : Nat) (hc : am_ok x cX7_lookAtAll yX7_lookAtAll 2 none (d + 5) 0 0) {I' : am_I} {L' : am_L} (m : Nat) : ∀ (a1 : Int32) (I : am_I) (L : am_L) (hf : fX7_lookAtAll_b2 n d m a1 I L = some (I', L')), am_J x (fun S => S = (none, (KC al), (RC al), I', L')) 2 [some (.ref 39), some (.int a1)] [] (KC al) (RC al) I L 0 0 := by
  induction m with
  | zero => intro a1 I L hf; exact (Option.some_ne_none _ hf.symm).elim
  | succ m ih => intro a1 I L hf; exact tX7_lookAtAll_b2w n d hc (fX7_lookAtAll_b2 n d m) ih a1 I L hf

set_option maxRecDepth 100000 in
def fX7_lookAtAll (n d : Nat) (I : am_I) (L : am_L) : Option (am_I × am_L) :=
  am_lt (0 : Int32) (fun v1 => fX7_lookAtAll_b2 n d n v1 I L)

set_option maxRecDepth 100000 in
set_option maxHeartbeats 4000000 in
theorem tX7_lookAtAll {x : am_X} {al : Bool} (n d : Nat) (hc : am_ok x cX7_lookAtAll yX7_lookAtAll 2 none (d + 5) 0 0) {I' : am_I} {L' : am_L} (I : am_I) (L : am_L) (hf : fX7_lookAtAll n d I L = some (I', L')) : am_J x (fun S => S = (none, (KC al), (RC al), I', L')) 0 [some (.ref 39), none] [] (KC al) (RC al) I L 0 0 := by
  unfold fX7_lookAtAll at hf
  refine j_iconst (v := (0 : Int32)) hc dX7_lookAtAll_0 ci_0 ?_
  refine j_istore_n hc dX7_lookAtAll_1 (Nat.le_of_ble_eq_true rfl) hf (fun v1 hf => ?_)
  exact j_sub (tX7_lookAtAll_b2 n d hc n _ _ _ hf) (And.intro rfl (And.intro rfl (trivial)))

set_option maxRecDepth 100000 in
theorem qX7_lookAtAll (l : Launch) {al : Bool} (n d : Nat) (I : am_I) (L : am_L) (I' : am_I) (L' : am_L) (hf : fX7_lookAtAll n d I L = some (I', L')) : am_C l yX7_lookAtAll cX7_lookAtAll 2 none (d + 5) [.ref 39] (KC al) (RC al) I L none I' L' := by
  exact am_intro (plainFor_of_name plX7) (fun _ _ => trivial) (Nat.le_of_ble_eq_true rfl) (fun x hl hc => by subst hl; exact j_sub (tX7_lookAtAll n d hc  _ _ hf) (And.intro rfl (trivial)))
set_option maxRecDepth 100000 in
def fX7_begin_b17w (n d : Nat) (k17 : Int32 → am_I → am_L → Option (am_I × am_L)) (a1 : Int32) (I : am_I) (L : am_L) : Option (am_I × am_L) :=
  if (I 3 0) ≤ a1 then
    (am_b2 (fX7_lookAtAll n d I L) (fun I1 L1 => some (I1, L1)))
    else
    (am_ck a1 8 (am_lt (I 5 (a1).toNatClampNeg) (fun v2 => am_ck a1 8 (am_lt (am_up I 40 (a1).toNatClampNeg v2) (fun I3 => am_ck a1 8 (am_lt (I3 40 (a1).toNatClampNeg) (fun v4 => am_b3 (fX7_restAt n d v4 I3 L) (fun v5 I5 L5 => am_ck a1 8 (am_lt (am_up I5 41 (a1).toNatClampNeg v5) (fun I6 => am_lt (a1 + (1 : Int32)) (fun v7 => k17 v7 I6 L5)))))))))))

set_option maxRecDepth 100000 in
set_option maxHeartbeats 4000000 in
theorem tX7_begin_b17w {x : am_X} {al : Bool} (n d : Nat) (hc : am_ok x cX7_begin yX7_begin 2 none (d + 6) 0 0) {I' : am_I} {L' : am_L} (k17 : Int32 → am_I → am_L → Option (am_I × am_L)) (hk17 : ∀ (a1 : Int32) (I : am_I) (L : am_L), k17 a1 I L = some (I', L') → am_J x (fun S => S = (none, (KC al), (RC al), I', L')) 17 [some (.ref 39), some (.int a1)] [] (KC al) (RC al) I L 0 0) (a1 : Int32) (I : am_I) (L : am_L) (hf : fX7_begin_b17w n d k17 a1 I L = some (I', L')) : am_J x (fun S => S = (none, (KC al), (RC al), I', L')) 17 [some (.ref 39), some (.int a1)] [] (KC al) (RC al) I L 0 0 := by
  unfold fX7_begin_b17w at hf
  refine j_iload_n hc dX7_begin_17 rfl ?_
  refine j_aload_n hc dX7_begin_18 rfl ?_
  refine j_getR (u := 3) hc dX7_begin_19 (fgC_X7_30_39 _) (rC_39_0 _) ?_
  refine j_getI hc dX7_begin_22 (fgC_X7_38_3 _) ?_
  refine j_icmp_ge (tgt := 65) hc dX7_begin_25 rfl hf (fun hf => ?_) (fun hf => ?_)
  · refine j_aload_n hc dX7_begin_65 rfl ?_
    refine j_callVV (t := 39) (As := []) hc dX7_begin_66 kw_823 mX7_lookAtAll (kC_39 _) clX7 rfl (by omega) (Nat.le_of_ble_eq_true rfl) (Nat.le_of_ble_eq_true rfl) ⟨Nat.le_refl _, Nat.le_refl _⟩ hf (fun I' L' h => qX7_lookAtAll x.2.1 n d I L I' L' h) (fun I1 L1 hf => ?_)
    exact j_return hc dX7_begin_69 rfl rfl hf
  · refine j_aload_n hc dX7_begin_28 rfl ?_
    refine j_getR (u := 40) hc dX7_begin_29 (fgC_X7_11_39 _) (rC_39_2 _) ?_
    refine j_iload_n hc dX7_begin_32 rfl ?_
    refine j_aload_n hc dX7_begin_33 rfl ?_
    refine j_getR (u := 3) hc dX7_begin_34 (fgC_X7_30_39 _) (rC_39_0 _) ?_
    refine j_getR (u := 5) hc dX7_begin_37 (fgC_X7_41_3 _) (rC_3_6 _) ?_
    refine j_iload_n hc dX7_begin_40 rfl ?_
    refine j_iaload (n := 8) hc dX7_begin_41 (kC_5 _) hf (fun v2 hf => ?_)
    refine j_iastore (n := 8) hc dX7_begin_42 (kC_40 _) hf (fun I3 hf => ?_)
    refine j_aload_n hc dX7_begin_43 rfl ?_
    refine j_getR (u := 41) hc dX7_begin_44 (fgC_X7_17_39 _) (rC_39_3 _) ?_
    refine j_iload_n hc dX7_begin_47 rfl ?_
    refine j_aload_n hc dX7_begin_48 rfl ?_
    refine j_aload_n hc dX7_begin_49 rfl ?_
    refine j_getR (u := 40) hc dX7_begin_50 (fgC_X7_11_39 _) (rC_39_2 _) ?_
    refine j_iload_n hc dX7_begin_53 rfl ?_
    refine j_iaload (n := 8) hc dX7_begin_54 (kC_40 _) hf (fun v4 hf => ?_)
    refine j_callVI (t := 39) (As := [.int v4]) hc dX7_begin_55 kw_819 mX7_restAt (kC_39 _) clX7 rfl (by omega) (Nat.le_of_ble_eq_true rfl) (Nat.le_of_ble_eq_true rfl) ⟨Nat.le_refl _, Nat.le_refl _⟩ hf (fun v I' L' h => qX7_restAt x.2.1 n d v4 I3 L v I' L' h) (fun v5 I5 L5 hf => ?_)
    refine j_iastore (n := 8) hc dX7_begin_58 (kC_41 _) hf (fun I6 hf => ?_)
    refine j_iinc (w := (1 : Int32)) hc dX7_begin_59 rfl ci_1 (Nat.le_of_ble_eq_true rfl) hf (fun v7 hf => ?_)
    refine j_goto (tgt := 17) hc dX7_begin_62 rfl ?_
    exact j_sub (hk17 _ _ _ hf) (And.intro rfl (And.intro rfl (trivial)))

def fX7_begin_b17 (n d : Nat) : Nat → Int32 → am_I → am_L → Option (am_I × am_L)
  | 0 => fun _ _ _ => none
  | m + 1 => fX7_begin_b17w n d  (fX7_begin_b17 n d m)

set_option maxRecDepth 100000 in
theorem tX7_begin_b17 {x : am_X} {al : Bool} (n d : Nat) (hc : am_ok x cX7_begin yX7_begin 2 none (d + 6) 0 0) {I' : am_I} {L' : am_L} (m : Nat) : ∀ (a1 : Int32) (I : am_I) (L : am_L) (hf : fX7_begin_b17 n d m a1 I L = some (I', L')), am_J x (fun S => S = (none, (KC al), (RC al), I', L')) 17 [some (.ref 39), some (.int a1)] [] (KC al) (RC al) I L 0 0 := by
  induction m with
  | zero => intro a1 I L hf; exact (Option.some_ne_none _ hf.symm).elim
  | succ m ih => intro a1 I L hf; exact tX7_begin_b17w n d hc (fX7_begin_b17 n d m) ih a1 I L hf

set_option maxRecDepth 100000 in
def fX7_begin (n d : Nat) (I : am_I) (L : am_L) : Option (am_I × am_L) :=
  am_lt (am_up I 39 4 (0 : Int32)) (fun I1 => am_lt (am_up I1 39 5 (0 : Int32)) (fun I2 => am_lt (am_up I2 39 6 (0 : Int32)) (fun I3 => am_lt (0 : Int32) (fun v4 => fX7_begin_b17 n d n v4 I3 L))))

set_option maxRecDepth 100000 in
set_option maxHeartbeats 4000000 in
theorem tX7_begin {x : am_X} {al : Bool} (n d : Nat) (hc : am_ok x cX7_begin yX7_begin 2 none (d + 6) 0 0) {I' : am_I} {L' : am_L} (I : am_I) (L : am_L) (hf : fX7_begin n d I L = some (I', L')) : am_J x (fun S => S = (none, (KC al), (RC al), I', L')) 0 [some (.ref 39), none] [] (KC al) (RC al) I L 0 0 := by
  unfold fX7_begin at hf
  refine j_aload_n hc dX7_begin_0 rfl ?_
  refine j_iconst (v := (0 : Int32)) hc dX7_begin_1 ci_0 ?_
  refine j_putI hc dX7_begin_2 (fpC_X7_20_39 _) rfl rfl hf (fun I1 hf => ?_)
  refine j_aload_n hc dX7_begin_5 rfl ?_
  refine j_iconst (v := (0 : Int32)) hc dX7_begin_6 ci_0 ?_
  refine j_putI hc dX7_begin_7 (fpC_X7_24_39 _) rfl rfl hf (fun I2 hf => ?_)
  refine j_aload_n hc dX7_begin_10 rfl ?_
  refine j_iconst (v := (0 : Int32)) hc dX7_begin_11 ci_0 ?_
  refine j_putI hc dX7_begin_12 (fpC_X7_27_39 _) rfl rfl hf (fun I3 hf => ?_)
  refine j_iconst (v := (0 : Int32)) hc dX7_begin_15 ci_0 ?_
  refine j_istore_n hc dX7_begin_16 (Nat.le_of_ble_eq_true rfl) hf (fun v4 hf => ?_)
  exact j_sub (tX7_begin_b17 n d hc n _ _ _ hf) (And.intro rfl (And.intro rfl (trivial)))

set_option maxRecDepth 100000 in
theorem qX7_begin (l : Launch) {al : Bool} (n d : Nat) (I : am_I) (L : am_L) (I' : am_I) (L' : am_L) (hf : fX7_begin n d I L = some (I', L')) : am_C l yX7_begin cX7_begin 2 none (d + 6) [.ref 39] (KC al) (RC al) I L none I' L' := by
  exact am_intro (plainFor_of_name plX7) (fun _ _ => trivial) (Nat.le_of_ble_eq_true rfl) (fun x hl hc => by subst hl; exact j_sub (tX7_begin n d hc  _ _ hf) (And.intro rfl (trivial)))
set_option maxRecDepth 100000 in
def fX5_clear (n d : Nat) (I : am_I) (L : am_L) : Option (am_I × am_L) :=
  am_lt (am_up I 42 3 (0 : Int32)) (fun I1 => am_lt (am_up I1 42 2 (0 : Int32)) (fun I2 => some (I2, L)))

set_option maxRecDepth 100000 in
set_option maxHeartbeats 4000000 in
theorem tX5_clear {x : am_X} {al : Bool} (n d : Nat) (hc : am_ok x cX5_clear yX5_clear 1 none (d + 1) 0 0) {I' : am_I} {L' : am_L} (I : am_I) (L : am_L) (hf : fX5_clear n d I L = some (I', L')) : am_J x (fun S => S = (none, (KC al), (RC al), I', L')) 0 [some (.ref 42)] [] (KC al) (RC al) I L 0 0 := by
  unfold fX5_clear at hf
  refine j_aload_n hc dX5_clear_0 rfl ?_
  refine j_iconst (v := (0 : Int32)) hc dX5_clear_1 ci_0 ?_
  refine j_putI hc dX5_clear_2 (fpC_X5_24_42 _) rfl rfl hf (fun I1 hf => ?_)
  refine j_aload_n hc dX5_clear_5 rfl ?_
  refine j_iconst (v := (0 : Int32)) hc dX5_clear_6 ci_0 ?_
  refine j_putI hc dX5_clear_7 (fpC_X5_20_42 _) rfl rfl hf (fun I2 hf => ?_)
  exact j_return hc dX5_clear_10 rfl rfl hf

set_option maxRecDepth 100000 in
theorem qX5_clear (l : Launch) {al : Bool} (n d : Nat) (I : am_I) (L : am_L) (I' : am_I) (L' : am_L) (hf : fX5_clear n d I L = some (I', L')) : am_C l yX5_clear cX5_clear 1 none (d + 1) [.ref 42] (KC al) (RC al) I L none I' L' := by
  exact am_intro (plainFor_of_name plX5) (fun _ _ => trivial) (Nat.le_of_ble_eq_true rfl) (fun x hl hc => by subst hl; exact j_sub (tX5_clear n d hc  _ _ hf) (And.intro rfl (trivial)))
