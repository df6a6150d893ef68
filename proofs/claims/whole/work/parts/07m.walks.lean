set_option maxRecDepth 100000 in
def fX11_meeting (n d : Nat) (a1 : Int32) (a2 : Int32) (I : am_I) (L : am_L) : Option (Int32 × am_I × am_L) :=
  am_b3 (fX9_hasMan_war n d a1 I L) (fun v1 I1 L1 => if v1 = 0 then
    (some ((-1 : Int32), I1, L1))
    else
    (am_b3 (fX9_hasMan_war n d a2 I1 L1) (fun v2 I2 L2 => if v2 = 0 then
      (some ((-1 : Int32), I2, L2))
      else
      (am_ck a1 8 (am_lt (I2 40 (a1).toNatClampNeg) (fun v3 => am_ck a2 8 (am_lt (I2 40 (a2).toNatClampNeg) (fun v4 => am_b3 (fJ9_abs_0f7a4 n d (v3 - v4) I2 L2) (fun v5 I5 L5 => some (v5, I5, L5))))))))))

set_option maxRecDepth 100000 in
set_option maxHeartbeats 4000000 in
theorem tX11_meeting {x : am_X} {al : Bool} (n d : Nat) (hc : am_ok x cX11_meeting yX11_meeting 3 (some .int) (d + 2) 0 0) {r : Int32} {I' : am_I} {L' : am_L} (a1 : Int32) (a2 : Int32) (I : am_I) (L : am_L) (hf : fX11_meeting n d a1 a2 I L = some (r, I', L')) : am_J x (fun S => S = (some (.int r), (KC al), (RC al), I', L')) 0 [some (.ref 0), some (.int a1), some (.int a2)] [] (KC al) (RC al) I L 0 0 := by
  unfold fX11_meeting at hf
  refine j_aload_n hc dX11_meeting_0 rfl ?_
  refine j_getR (u := 3) hc dX11_meeting_1 (fgC_X11_19_0 _) (rC_0_1 _) ?_
  refine j_iload_n hc dX11_meeting_4 rfl ?_
  refine j_callVI (t := 3) (As := [.int a1]) hc dX11_meeting_5 kw_978 mX9_hasMan (kC_3 _) clX9 rfl (by omega) (Nat.le_of_ble_eq_true rfl) (Nat.le_of_ble_eq_true rfl) ⟨Nat.le_refl _, Nat.le_refl _⟩ hf (fun v I' L' h => qX9_hasMan_war x.2.1 n d a1 I L v I' L' h) (fun v1 I1 L1 hf => ?_)
  refine j_if_eq (tgt := 22) hc dX11_meeting_8 rfl hf (fun hf => ?_) (fun hf => ?_)
  · refine j_iconst (v := (-1 : Int32)) hc dX11_meeting_22 ci_m1 ?_
    exact j_ireturn hc dX11_meeting_23 rfl rfl hf
  · refine j_aload_n hc dX11_meeting_11 rfl ?_
    refine j_getR (u := 3) hc dX11_meeting_12 (fgC_X11_19_0 _) (rC_0_1 _) ?_
    refine j_iload_n hc dX11_meeting_15 rfl ?_
    refine j_callVI (t := 3) (As := [.int a2]) hc dX11_meeting_16 kw_978 mX9_hasMan (kC_3 _) clX9 rfl (by omega) (Nat.le_of_ble_eq_true rfl) (Nat.le_of_ble_eq_true rfl) ⟨Nat.le_refl _, Nat.le_refl _⟩ hf (fun v I' L' h => qX9_hasMan_war x.2.1 n d a2 I1 L1 v I' L' h) (fun v2 I2 L2 hf => ?_)
    refine j_if_ne (tgt := 24) hc dX11_meeting_19 rfl hf (fun hf => ?_) (fun hf => ?_)
    · refine j_aload_n hc dX11_meeting_24 rfl ?_
      refine j_getR (u := 39) hc dX11_meeting_25 (fgC_X11_56_0 _) (rC_0_6 _) ?_
      refine j_getR (u := 40) hc dX11_meeting_28 (fgC_X11_168_39 _) (rC_39_2 _) ?_
      refine j_iload_n hc dX11_meeting_31 rfl ?_
      refine j_iaload (n := 8) hc dX11_meeting_32 (kC_40 _) hf (fun v3 hf => ?_)
      refine j_aload_n hc dX11_meeting_33 rfl ?_
      refine j_getR (u := 39) hc dX11_meeting_34 (fgC_X11_56_0 _) (rC_0_6 _) ?_
      refine j_getR (u := 40) hc dX11_meeting_37 (fgC_X11_168_39 _) (rC_39_2 _) ?_
      refine j_iload_n hc dX11_meeting_40 rfl ?_
      refine j_iaload (n := 8) hc dX11_meeting_41 (kC_40 _) hf (fun v4 hf => ?_)
      refine j_isub hc dX11_meeting_42 ?_
      refine j_callSI (As := [.int (v3 - v4)]) hc dX11_meeting_43 kw_1282 mJ9_abs_0f7a4  rfl (by omega) (Nat.le_of_ble_eq_true rfl) (Nat.le_of_ble_eq_true rfl) ⟨Nat.le_refl _, Nat.le_refl _⟩ hf (fun v I' L' h => qJ9_abs_0f7a4 x.2.1 n d (v3 - v4) I2 L2 v I' L' h) (fun v5 I5 L5 hf => ?_)
      exact j_ireturn hc dX11_meeting_46 rfl rfl hf
    · refine j_iconst (v := (-1 : Int32)) hc dX11_meeting_22 ci_m1 ?_
      exact j_ireturn hc dX11_meeting_23 rfl rfl hf

set_option maxRecDepth 100000 in
theorem qX11_meeting (l : Launch) {al : Bool} (n d : Nat) (a1 : Int32) (a2 : Int32) (I : am_I) (L : am_L) (r : Int32) (I' : am_I) (L' : am_L) (hf : fX11_meeting n d a1 a2 I L = some (r, I', L')) : am_C l yX11_meeting cX11_meeting 3 (some .int) (d + 2) [.ref 0, .int a1, .int a2] (KC al) (RC al) I L (some (.int r)) I' L' := by
  exact am_intro (plainFor_of_name plX11) (fun _ _ => trivial) (Nat.le_of_ble_eq_true rfl) (fun x hl hc => by subst hl; exact j_sub (tX11_meeting n d hc _ _ _ _ hf) (And.intro rfl (And.intro rfl (And.intro rfl (trivial)))))
set_option maxRecDepth 100000 in
def fX5_keepImage_b10w (n d : Nat) (k10 : Int32 → am_I → am_L → Option (am_I × am_L)) (a1 : Int32) (I : am_I) (L : am_L) : Option (am_I × am_L) :=
  if (I 42 2) ≤ a1 then
    (some (I, L))
    else
    (if (60 : Int32) ≤ a1 then
      (some (I, L))
      else
      (am_b3 (fX5_line n d (((I 42 2) - (1 : Int32)) - a1) I L) (fun v1 I1 L1 => am_ck a1 60 (am_lt (am_up I1 44 (a1).toNatClampNeg v1) (fun I2 => am_lt (a1 + (1 : Int32)) (fun v3 => k10 v3 I2 L1))))))

set_option maxRecDepth 100000 in
set_option maxHeartbeats 4000000 in
theorem tX5_keepImage_b10w {x : am_X} {al : Bool} (n d : Nat) (hc : am_ok x cX5_keepImage yX5_keepImage 2 none (d + 3) 0 0) {I' : am_I} {L' : am_L} (k10 : Int32 → am_I → am_L → Option (am_I × am_L)) (hk10 : ∀ (a1 : Int32) (I : am_I) (L : am_L), k10 a1 I L = some (I', L') → am_J x (fun S => S = (none, (KC al), (RC al), I', L')) 10 [some (.ref 42), some (.int a1)] [] (KC al) (RC al) I L 0 0) (a1 : Int32) (I : am_I) (L : am_L) (hf : fX5_keepImage_b10w n d k10 a1 I L = some (I', L')) : am_J x (fun S => S = (none, (KC al), (RC al), I', L')) 10 [some (.ref 42), some (.int a1)] [] (KC al) (RC al) I L 0 0 := by
  unfold fX5_keepImage_b10w at hf
  refine j_iload_n hc dX5_keepImage_10 rfl ?_
  refine j_aload_n hc dX5_keepImage_11 rfl ?_
  refine j_getI hc dX5_keepImage_12 (fgC_X5_20_42 _) ?_
  refine j_icmp_ge (tgt := 48) hc dX5_keepImage_15 rfl hf (fun hf => ?_) (fun hf => ?_)
  · exact j_return hc dX5_keepImage_48 rfl rfl hf
  · refine j_iload_n hc dX5_keepImage_18 rfl ?_
    refine j_bipush (v := (60 : Int32)) hc dX5_keepImage_19 cb_60 ?_
    refine j_icmp_ge (tgt := 48) hc dX5_keepImage_21 rfl hf (fun hf => ?_) (fun hf => ?_)
    · exact j_return hc dX5_keepImage_48 rfl rfl hf
    · refine j_aload_n hc dX5_keepImage_24 rfl ?_
      refine j_getR (u := 44) hc dX5_keepImage_25 (fgC_X5_17_42 _) (rC_42_1 _) ?_
      refine j_iload_n hc dX5_keepImage_28 rfl ?_
      refine j_aload_n hc dX5_keepImage_29 rfl ?_
      refine j_aload_n hc dX5_keepImage_30 rfl ?_
      refine j_getI hc dX5_keepImage_31 (fgC_X5_20_42 _) ?_
      refine j_iconst (v := (1 : Int32)) hc dX5_keepImage_34 ci_1 ?_
      refine j_isub hc dX5_keepImage_35 ?_
      refine j_iload_n hc dX5_keepImage_36 rfl ?_
      refine j_isub hc dX5_keepImage_37 ?_
      refine j_callVI (t := 42) (As := [.int (((I 42 2) - (1 : Int32)) - a1)]) hc dX5_keepImage_38 kw_1065 mX5_line (kC_42 _) clX5 rfl (by omega) (Nat.le_of_ble_eq_true rfl) (Nat.le_of_ble_eq_true rfl) ⟨Nat.le_refl _, Nat.le_refl _⟩ hf (fun v I' L' h => qX5_line x.2.1 n d (((I 42 2) - (1 : Int32)) - a1) I L v I' L' h) (fun v1 I1 L1 hf => ?_)
      refine j_iastore (n := 60) hc dX5_keepImage_41 (kC_44 _) hf (fun I2 hf => ?_)
      refine j_iinc (w := (1 : Int32)) hc dX5_keepImage_42 rfl ci_1 (Nat.le_of_ble_eq_true rfl) hf (fun v3 hf => ?_)
      refine j_goto (tgt := 10) hc dX5_keepImage_45 rfl ?_
      exact j_sub (hk10 _ _ _ hf) (And.intro rfl (And.intro rfl (trivial)))

def fX5_keepImage_b10 (n d : Nat) : Nat → Int32 → am_I → am_L → Option (am_I × am_L)
  | 0 => fun _ _ _ => none
  | m + 1 => fX5_keepImage_b10w n d  (fX5_keepImage_b10 n d m)

set_option maxRecDepth 100000 in
theorem tX5_keepImage_b10 {x : am_X} {al : Bool} (n d : Nat) (hc : am_ok x cX5_keepImage yX5_keepImage 2 none (d + 3) 0 0) {I' : am_I} {L' : am_L} (m : Nat) : ∀ (a1 : Int32) (I : am_I) (L : am_L) (hf : fX5_keepImage_b10 n d m a1 I L = some (I', L')), am_J x (fun S => S = (none, (KC al), (RC al), I', L')) 10 [some (.ref 42), some (.int a1)] [] (KC al) (RC al) I L 0 0 := by
  induction m with
  | zero => intro a1 I L hf; exact (Option.some_ne_none _ hf.symm).elim
  | succ m ih => intro a1 I L hf; exact tX5_keepImage_b10w n d hc (fX5_keepImage_b10 n d m) ih a1 I L hf

set_option maxRecDepth 100000 in
def fX5_keepImage (n d : Nat) (I : am_I) (L : am_L) : Option (am_I × am_L) :=
  am_b3 (fX5_length n d I L) (fun v1 I1 L1 => am_lt (am_up I1 42 2 v1) (fun I2 => am_lt (0 : Int32) (fun v3 => fX5_keepImage_b10 n d n v3 I2 L1)))

set_option maxRecDepth 100000 in
set_option maxHeartbeats 4000000 in
theorem tX5_keepImage {x : am_X} {al : Bool} (n d : Nat) (hc : am_ok x cX5_keepImage yX5_keepImage 2 none (d + 3) 0 0) {I' : am_I} {L' : am_L} (I : am_I) (L : am_L) (hf : fX5_keepImage n d I L = some (I', L')) : am_J x (fun S => S = (none, (KC al), (RC al), I', L')) 0 [some (.ref 42), none] [] (KC al) (RC al) I L 0 0 := by
  unfold fX5_keepImage at hf
  refine j_aload_n hc dX5_keepImage_0 rfl ?_
  refine j_aload_n hc dX5_keepImage_1 rfl ?_
  refine j_callVI (t := 42) (As := []) hc dX5_keepImage_2 kw_1064 mX5_length (kC_42 _) clX5 rfl (by omega) (Nat.le_of_ble_eq_true rfl) (Nat.le_of_ble_eq_true rfl) ⟨Nat.le_refl _, Nat.le_refl _⟩ hf (fun v I' L' h => qX5_length x.2.1 n d I L v I' L' h) (fun v1 I1 L1 hf => ?_)
  refine j_putI hc dX5_keepImage_5 (fpC_X5_20_42 _) rfl rfl hf (fun I2 hf => ?_)
  refine j_iconst (v := (0 : Int32)) hc dX5_keepImage_8 ci_0 ?_
  refine j_istore_n hc dX5_keepImage_9 (Nat.le_of_ble_eq_true rfl) hf (fun v3 hf => ?_)
  exact j_sub (tX5_keepImage_b10 n d hc n _ _ _ hf) (And.intro rfl (And.intro rfl (trivial)))

set_option maxRecDepth 100000 in
theorem qX5_keepImage (l : Launch) {al : Bool} (n d : Nat) (I : am_I) (L : am_L) (I' : am_I) (L' : am_L) (hf : fX5_keepImage n d I L = some (I', L')) : am_C l yX5_keepImage cX5_keepImage 2 none (d + 3) [.ref 42] (KC al) (RC al) I L none I' L' := by
  exact am_intro (plainFor_of_name plX5) (fun _ _ => trivial) (Nat.le_of_ble_eq_true rfl) (fun x hl hc => by subst hl; exact j_sub (tX5_keepImage n d hc  _ _ hf) (And.intro rfl (trivial)))
set_option maxRecDepth 100000 in
def fX6_keepImage_road_logbook (n d : Nat) (I : am_I) (L : am_L) : Option (am_I × am_L) :=
  am_b2 (fX6_keep_road n d (40 : Int32) I L) (fun I1 L1 => am_b2 (fX5_keepImage n d I1 L1) (fun I2 L2 => am_bl (1 : Int32) (am_lt (am_up I2 45 7 (1 : Int32)) (fun I3 => some (I3, L2)))))

set_option maxRecDepth 100000 in
set_option maxHeartbeats 4000000 in
theorem tX6_keepImage_road_logbook {x : am_X} {al : Bool} (n d : Nat) (hc : am_ok x cX6_keepImage yX6_keepImage 3 none (d + 4) 0 0) {I' : am_I} {L' : am_L} (I : am_I) (L : am_L) (hf : fX6_keepImage_road_logbook n d I L = some (I', L')) : am_J x (fun S => S = (none, (KC al), (RC al), I', L')) 0 [some (.ref 45), some (.ref 39), some (.ref 42)] [] (KC al) (RC al) I L 0 0 := by
  unfold fX6_keepImage_road_logbook at hf
  refine j_aload_n hc dX6_keepImage_0 rfl ?_
  refine j_bipush (v := (40 : Int32)) hc dX6_keepImage_1 cb_40 ?_
  refine j_aload_n hc dX6_keepImage_3 rfl ?_
  refine j_callVV (t := 45) (As := [.int (40 : Int32), .ref 39]) hc dX6_keepImage_4 kw_927 mX6_keep (kC_45 _) clX6 rfl (by omega) (Nat.le_of_ble_eq_true rfl) (Nat.le_of_ble_eq_true rfl) ⟨Nat.le_refl _, Nat.le_refl _⟩ hf (fun I' L' h => qX6_keep_road x.2.1 n d (40 : Int32) I L I' L' h) (fun I1 L1 hf => ?_)
  refine j_aload_n hc dX6_keepImage_7 rfl ?_
  refine j_callVV (t := 42) (As := []) hc dX6_keepImage_8 kw_1060 mX5_keepImage (kC_42 _) clX5 rfl (by omega) (Nat.le_of_ble_eq_true rfl) (Nat.le_of_ble_eq_true rfl) ⟨Nat.le_refl _, Nat.le_refl _⟩ hf (fun I' L' h => qX5_keepImage x.2.1 n d I1 L1 I' L' h) (fun I2 L2 hf => ?_)
  refine j_aload_n hc dX6_keepImage_11 rfl ?_
  refine j_iconst (v := (1 : Int32)) hc dX6_keepImage_12 ci_1 ?_
  refine j_putZ hc dX6_keepImage_13 (fpC_X6_33_45 _) rfl hf (fun I3 hf => ?_)
  exact j_return hc dX6_keepImage_16 rfl rfl hf

set_option maxRecDepth 100000 in
theorem qX6_keepImage_road_logbook (l : Launch) {al : Bool} (n d : Nat) (I : am_I) (L : am_L) (I' : am_I) (L' : am_L) (hf : fX6_keepImage_road_logbook n d I L = some (I', L')) : am_C l yX6_keepImage cX6_keepImage 3 none (d + 4) [.ref 45, .ref 39, .ref 42] (KC al) (RC al) I L none I' L' := by
  exact am_intro (plainFor_of_name plX6) (fun _ _ => trivial) (Nat.le_of_ble_eq_true rfl) (fun x hl hc => by subst hl; exact j_sub (tX6_keepImage_road_logbook n d hc  _ _ hf) (And.intro rfl (And.intro rfl (And.intro rfl (trivial)))))
set_option maxRecDepth 100000 in
def fX11_image (n d : Nat) (I : am_I) (L : am_L) : Option (Int32 × am_I × am_L) :=
  if (I 3 0) = 0 then
    (some ((-1 : Int32), I, L))
    else
    (am_b2 (fX6_keepImage_road_logbook n d I L) (fun I1 L1 => some ((I1 39 5), I1, L1)))

set_option maxRecDepth 100000 in
set_option maxHeartbeats 4000000 in
theorem tX11_image {x : am_X} {al : Bool} (n d : Nat) (hc : am_ok x cX11_image yX11_image 1 (some .int) (d + 5) 0 0) {r : Int32} {I' : am_I} {L' : am_L} (I : am_I) (L : am_L) (hf : fX11_image n d I L = some (r, I', L')) : am_J x (fun S => S = (some (.int r), (KC al), (RC al), I', L')) 0 [some (.ref 0)] [] (KC al) (RC al) I L 0 0 := by
  unfold fX11_image at hf
  refine j_aload_n hc dX11_image_0 rfl ?_
  refine j_getR (u := 3) hc dX11_image_1 (fgC_X11_19_0 _) (rC_0_1 _) ?_
  refine j_getI hc dX11_image_4 (fgC_X11_151_3 _) ?_
  refine j_if_ne (tgt := 12) hc dX11_image_7 rfl hf (fun hf => ?_) (fun hf => ?_)
  · refine j_aload_n hc dX11_image_12 rfl ?_
    refine j_getR (u := 45) hc dX11_image_13 (fgC_X11_70_0 _) (rC_0_8 _) ?_
    refine j_aload_n hc dX11_image_16 rfl ?_
    refine j_getR (u := 39) hc dX11_image_17 (fgC_X11_56_0 _) (rC_0_6 _) ?_
    refine j_aload_n hc dX11_image_20 rfl ?_
    refine j_getR (u := 42) hc dX11_image_21 (fgC_X11_63_0 _) (rC_0_7 _) ?_
    refine j_callVV (t := 45) (As := [.ref 39, .ref 42]) hc dX11_image_24 kw_1056 mX6_keepImage (kC_45 _) clX6 rfl (by omega) (Nat.le_of_ble_eq_true rfl) (Nat.le_of_ble_eq_true rfl) ⟨Nat.le_refl _, Nat.le_refl _⟩ hf (fun I' L' h => qX6_keepImage_road_logbook x.2.1 n d I L I' L' h) (fun I1 L1 hf => ?_)
    refine j_aload_n hc dX11_image_27 rfl ?_
    refine j_getR (u := 39) hc dX11_image_28 (fgC_X11_56_0 _) (rC_0_6 _) ?_
    refine j_getI hc dX11_image_31 (fgC_X11_215_39 _) ?_
    exact j_ireturn hc dX11_image_34 rfl rfl hf
  · refine j_iconst (v := (-1 : Int32)) hc dX11_image_10 ci_m1 ?_
    exact j_ireturn hc dX11_image_11 rfl rfl hf

set_option maxRecDepth 100000 in
theorem qX11_image (l : Launch) {al : Bool} (n d : Nat) (I : am_I) (L : am_L) (r : Int32) (I' : am_I) (L' : am_L) (hf : fX11_image n d I L = some (r, I', L')) : am_C l yX11_image cX11_image 1 (some .int) (d + 5) [.ref 0] (KC al) (RC al) I L (some (.int r)) I' L' := by
  exact am_intro (plainFor_of_name plX11) (fun _ _ => trivial) (Nat.le_of_ble_eq_true rfl) (fun x hl hc => by subst hl; exact j_sub (tX11_image n d hc  _ _ hf) (And.intro rfl (trivial)))
set_option maxRecDepth 100000 in
def fX5_bringImageBack_b34 (n d : Nat) (I : am_I) (L : am_L) : Option (am_I × am_L) :=
  am_lt (am_up I 42 3 (I 42 2)) (fun I1 => some (I1, L))

set_option maxRecDepth 100000 in
set_option maxHeartbeats 4000000 in
theorem tX5_bringImageBack_b34 {x : am_X} {al : Bool} (n d : Nat) (hc : am_ok x cX5_bringImageBack yX5_bringImageBack 2 none (d + 1) 0 0) {I' : am_I} {L' : am_L} (I : am_I) (L : am_L) (hf : fX5_bringImageBack_b34 n d I L = some (I', L')) : am_J x (fun S => S = (none, (KC al), (RC al), I', L')) 34 [some (.ref 42), none] [] (KC al) (RC al) I L 0 0 := by
  unfold fX5_bringImageBack_b34 at hf
  refine j_aload_n hc dX5_bringImageBack_34 rfl ?_
  refine j_aload_n hc dX5_bringImageBack_35 rfl ?_
  refine j_getI hc dX5_bringImageBack_36 (fgC_X5_20_42 _) ?_
  refine j_putI hc dX5_bringImageBack_39 (fpC_X5_24_42 _) rfl rfl hf (fun I1 hf => ?_)
  exact j_return hc dX5_bringImageBack_42 rfl rfl hf

set_option maxRecDepth 100000 in
def fX5_bringImageBack_b2w (n d : Nat) (k2 : Int32 → am_I → am_L → Option (am_I × am_L)) (a1 : Int32) (I : am_I) (L : am_L) : Option (am_I × am_L) :=
  if (I 42 2) ≤ a1 then
    (fX5_bringImageBack_b34 n d I L)
    else
    (if (60 : Int32) ≤ a1 then
      (fX5_bringImageBack_b34 n d I L)
      else
      (am_ck a1 60 (am_lt (I 44 (a1).toNatClampNeg) (fun v1 => am_ck a1 420 (am_lt (am_up I 43 (a1).toNatClampNeg v1) (fun I2 => am_lt (a1 + (1 : Int32)) (fun v3 => k2 v3 I2 L)))))))

set_option maxRecDepth 100000 in
set_option maxHeartbeats 4000000 in
theorem tX5_bringImageBack_b2w {x : am_X} {al : Bool} (n d : Nat) (hc : am_ok x cX5_bringImageBack yX5_bringImageBack 2 none (d + 1) 0 0) {I' : am_I} {L' : am_L} (k2 : Int32 → am_I → am_L → Option (am_I × am_L)) (hk2 : ∀ (a1 : Int32) (I : am_I) (L : am_L), k2 a1 I L = some (I', L') → am_J x (fun S => S = (none, (KC al), (RC al), I', L')) 2 [some (.ref 42), some (.int a1)] [] (KC al) (RC al) I L 0 0) (a1 : Int32) (I : am_I) (L : am_L) (hf : fX5_bringImageBack_b2w n d k2 a1 I L = some (I', L')) : am_J x (fun S => S = (none, (KC al), (RC al), I', L')) 2 [some (.ref 42), some (.int a1)] [] (KC al) (RC al) I L 0 0 := by
  unfold fX5_bringImageBack_b2w at hf
  refine j_iload_n hc dX5_bringImageBack_2 rfl ?_
  refine j_aload_n hc dX5_bringImageBack_3 rfl ?_
  refine j_getI hc dX5_bringImageBack_4 (fgC_X5_20_42 _) ?_
  refine j_icmp_ge (tgt := 34) hc dX5_bringImageBack_7 rfl hf (fun hf => ?_) (fun hf => ?_)
  · exact j_sub (tX5_bringImageBack_b34 n d hc _ _ hf) (And.intro rfl (trivial))
  · refine j_iload_n hc dX5_bringImageBack_10 rfl ?_
    refine j_bipush (v := (60 : Int32)) hc dX5_bringImageBack_11 cb_60 ?_
    refine j_icmp_ge (tgt := 34) hc dX5_bringImageBack_13 rfl hf (fun hf => ?_) (fun hf => ?_)
    · exact j_sub (tX5_bringImageBack_b34 n d hc _ _ hf) (And.intro rfl (trivial))
    · refine j_aload_n hc dX5_bringImageBack_16 rfl ?_
      refine j_getR (u := 43) hc dX5_bringImageBack_17 (fgC_X5_13_42 _) (rC_42_0 _) ?_
      refine j_iload_n hc dX5_bringImageBack_20 rfl ?_
      refine j_aload_n hc dX5_bringImageBack_21 rfl ?_
      refine j_getR (u := 44) hc dX5_bringImageBack_22 (fgC_X5_17_42 _) (rC_42_1 _) ?_
      refine j_iload_n hc dX5_bringImageBack_25 rfl ?_
      refine j_iaload (n := 60) hc dX5_bringImageBack_26 (kC_44 _) hf (fun v1 hf => ?_)
      refine j_iastore (n := 420) hc dX5_bringImageBack_27 (kC_43 _) hf (fun I2 hf => ?_)
      refine j_iinc (w := (1 : Int32)) hc dX5_bringImageBack_28 rfl ci_1 (Nat.le_of_ble_eq_true rfl) hf (fun v3 hf => ?_)
      refine j_goto (tgt := 2) hc dX5_bringImageBack_31 rfl ?_
      exact j_sub (hk2 _ _ _ hf) (And.intro rfl (And.intro rfl (trivial)))

def fX5_bringImageBack_b2 (n d : Nat) : Nat → Int32 → am_I → am_L → Option (am_I × am_L)
  | 0 => fun _ _ _ => none
  | m + 1 => fX5_bringImageBack_b2w n d  (fX5_bringImageBack_b2 n d m)

set_option maxRecDepth 100000 in
theorem tX5_bringImageBack_b2 {x : am_X} {al : Bool} (n d : Nat) (hc : am_ok x cX5_bringImageBack yX5_bringImageBack 2 none (d + 1) 0 0) {I' : am_I} {L' : am_L} (m : Nat) : ∀ (a1 : Int32) (I : am_I) (L : am_L) (hf : fX5_bringImageBack_b2 n d m a1 I L = some (I', L')), am_J x (fun S => S = (none, (KC al), (RC al), I', L')) 2 [some (.ref 42), some (.int a1)] [] (KC al) (RC al) I L 0 0 := by
  induction m with
  | zero => intro a1 I L hf; exact (Option.some_ne_none _ hf.symm).elim
  | succ m ih => intro a1 I L hf; exact tX5_bringImageBack_b2w n d hc (fX5_bringImageBack_b2 n d m) ih a1 I L hf

set_option maxRecDepth 100000 in
def fX5_bringImageBack (n d : Nat) (I : am_I) (L : am_L) : Option (am_I × am_L) :=
  am_lt (0 : Int32) (fun v1 => fX5_bringImageBack_b2 n d n v1 I L)

set_option maxRecDepth 100000 in
set_option maxHeartbeats 4000000 in
theorem tX5_bringImageBack {x : am_X} {al : Bool} (n d : Nat) (hc : am_ok x cX5_bringImageBack yX5_bringImageBack 2 none (d + 1) 0 0) {I' : am_I} {L' : am_L} (I : am_I) (L : am_L) (hf : fX5_bringImageBack n d I L = some (I', L')) : am_J x (fun S => S = (none, (KC al), (RC al), I', L')) 0 [some (.ref 42), none] [] (KC al) (RC al) I L 0 0 := by
  unfold fX5_bringImageBack at hf
  refine j_iconst (v := (0 : Int32)) hc dX5_bringImageBack_0 ci_0 ?_
  refine j_istore_n hc dX5_bringImageBack_1 (Nat.le_of_ble_eq_true rfl) hf (fun v1 hf => ?_)
  exact j_sub (tX5_bringImageBack_b2 n d hc n _ _ _ hf) (And.intro rfl (And.intro rfl (trivial)))

set_option maxRecDepth 100000 in
theorem qX5_bringImageBack (l : Launch) {al : Bool} (n d : Nat) (I : am_I) (L : am_L) (I' : am_I) (L' : am_L) (hf : fX5_bringImageBack n d I L = some (I', L')) : am_C l yX5_bringImageBack cX5_bringImageBack 2 none (d + 1) [.ref 42] (KC al) (RC al) I L none I' L' := by
  exact am_intro (plainFor_of_name plX5) (fun _ _ => trivial) (Nat.le_of_ble_eq_true rfl) (fun x hl hc => by subst hl; exact j_sub (tX5_bringImageBack n d hc  _ _ hf) (And.intro rfl (trivial)))
set_option maxRecDepth 100000 in
def fX6_bringImageBack_road_logbook (n d : Nat) (I : am_I) (L : am_L) : Option (am_I × am_L) :=
  am_ck (40 : Int32) 41 (am_lt (L 46 ((40 : Int32)).toNatClampNeg) (fun v1 => am_ck (40 : Int32) 41 (am_lt (L 47 ((40 : Int32)).toNatClampNeg) (fun v2 => am_ck (40 : Int32) 41 (am_lt (I 48 ((40 : Int32)).toNatClampNeg) (fun v3 => am_ck (40 : Int32) 41 (am_lt (I 49 ((40 : Int32)).toNatClampNeg) (fun v4 => am_b2 (fX7_unpack n d v1 v2 v3 v4 I L) (fun I5 L5 => am_b2 (fX5_bringImageBack n d I5 L5) (fun I6 L6 => am_lt (am_up I6 45 6 (0 : Int32)) (fun I7 => some (I7, L6))))))))))))

set_option maxRecDepth 100000 in
set_option maxHeartbeats 4000000 in
theorem tX6_bringImageBack_road_logbook {x : am_X} {al : Bool} (n d : Nat) (hc : am_ok x cX6_bringImageBack yX6_bringImageBack 3 none (d + 7) 0 0) {I' : am_I} {L' : am_L} (I : am_I) (L : am_L) (hf : fX6_bringImageBack_road_logbook n d I L = some (I', L')) : am_J x (fun S => S = (none, (KC al), (RC al), I', L')) 0 [some (.ref 45), some (.ref 39), some (.ref 42)] [] (KC al) (RC al) I L 0 0 := by
  unfold fX6_bringImageBack_road_logbook at hf
  refine j_aload_n hc dX6_bringImageBack_0 rfl ?_
  refine j_aload_n hc dX6_bringImageBack_1 rfl ?_
  refine j_getR (u := 46) hc dX6_bringImageBack_2 (fgC_X6_9_45 _) (rC_45_0 _) ?_
  refine j_bipush (v := (40 : Int32)) hc dX6_bringImageBack_5 cb_40 ?_
  refine j_laload (n := 41) hc dX6_bringImageBack_7 (kC_46 _) hf (fun v1 hf => ?_)
  refine j_aload_n hc dX6_bringImageBack_8 rfl ?_
  refine j_getR (u := 47) hc dX6_bringImageBack_9 (fgC_X6_13_45 _) (rC_45_1 _) ?_
  refine j_bipush (v := (40 : Int32)) hc dX6_bringImageBack_12 cb_40 ?_
  refine j_laload (n := 41) hc dX6_bringImageBack_14 (kC_47 _) hf (fun v2 hf => ?_)
  refine j_aload_n hc dX6_bringImageBack_15 rfl ?_
  refine j_getR (u := 48) hc dX6_bringImageBack_16 (fgC_X6_16_45 _) (rC_45_2 _) ?_
  refine j_bipush (v := (40 : Int32)) hc dX6_bringImageBack_19 cb_40 ?_
  refine j_iaload (n := 41) hc dX6_bringImageBack_21 (kC_48 _) hf (fun v3 hf => ?_)
  refine j_aload_n hc dX6_bringImageBack_22 rfl ?_
  refine j_getR (u := 49) hc dX6_bringImageBack_23 (fgC_X6_20_45 _) (rC_45_3 _) ?_
  refine j_bipush (v := (40 : Int32)) hc dX6_bringImageBack_26 cb_40 ?_
  refine j_iaload (n := 41) hc dX6_bringImageBack_28 (kC_49 _) hf (fun v4 hf => ?_)
  refine j_callVV (t := 39) (As := [.long v1, .long v2, .int v3, .int v4]) hc dX6_bringImageBack_29 kw_1031 mX7_unpack (kC_39 _) clX7 rfl (by omega) (Nat.le_of_ble_eq_true rfl) (Nat.le_of_ble_eq_true rfl) ⟨Nat.le_refl _, Nat.le_refl _⟩ hf (fun I' L' h => qX7_unpack x.2.1 n d v1 v2 v3 v4 I L I' L' h) (fun I5 L5 hf => ?_)
  refine j_aload_n hc dX6_bringImageBack_32 rfl ?_
  refine j_callVV (t := 42) (As := []) hc dX6_bringImageBack_33 kw_1074 mX5_bringImageBack (kC_42 _) clX5 rfl (by omega) (Nat.le_of_ble_eq_true rfl) (Nat.le_of_ble_eq_true rfl) ⟨Nat.le_refl _, Nat.le_refl _⟩ hf (fun I' L' h => qX5_bringImageBack x.2.1 n d I5 L5 I' L' h) (fun I6 L6 hf => ?_)
  refine j_aload_n hc dX6_bringImageBack_36 rfl ?_
  refine j_iconst (v := (0 : Int32)) hc dX6_bringImageBack_37 ci_0 ?_
  refine j_putI hc dX6_bringImageBack_38 (fpC_X6_30_45 _) rfl rfl hf (fun I7 hf => ?_)
  exact j_return hc dX6_bringImageBack_41 rfl rfl hf

set_option maxRecDepth 100000 in
theorem qX6_bringImageBack_road_logbook (l : Launch) {al : Bool} (n d : Nat) (I : am_I) (L : am_L) (I' : am_I) (L' : am_L) (hf : fX6_bringImageBack_road_logbook n d I L = some (I', L')) : am_C l yX6_bringImageBack cX6_bringImageBack 3 none (d + 7) [.ref 45, .ref 39, .ref 42] (KC al) (RC al) I L none I' L' := by
  exact am_intro (plainFor_of_name plX6) (fun _ _ => trivial) (Nat.le_of_ble_eq_true rfl) (fun x hl hc => by subst hl; exact j_sub (tX6_bringImageBack_road_logbook n d hc  _ _ hf) (And.intro rfl (And.intro rfl (And.intro rfl (trivial)))))
set_option maxRecDepth 100000 in
def fX11_back (n d : Nat) (I : am_I) (L : am_L) : Option (Int32 × am_I × am_L) :=
  if (I 45 7) = 0 then
    (some ((-1 : Int32), I, L))
    else
    (am_b2 (fX6_bringImageBack_road_logbook n d I L) (fun I1 L1 => some ((I1 39 5), I1, L1)))

set_option maxRecDepth 100000 in
set_option maxHeartbeats 4000000 in
theorem tX11_back {x : am_X} {al : Bool} (n d : Nat) (hc : am_ok x cX11_back yX11_back 1 (some .int) (d + 8) 0 0) {r : Int32} {I' : am_I} {L' : am_L} (I : am_I) (L : am_L) (hf : fX11_back n d I L = some (r, I', L')) : am_J x (fun S => S = (some (.int r), (KC al), (RC al), I', L')) 0 [some (.ref 0)] [] (KC al) (RC al) I L 0 0 := by
  unfold fX11_back at hf
  refine j_aload_n hc dX11_back_0 rfl ?_
  refine j_getR (u := 45) hc dX11_back_1 (fgC_X11_70_0 _) (rC_0_8 _) ?_
  refine j_getI hc dX11_back_4 (fgC_X11_313_45 _) ?_
  refine j_if_ne (tgt := 12) hc dX11_back_7 rfl hf (fun hf => ?_) (fun hf => ?_)
  · refine j_aload_n hc dX11_back_12 rfl ?_
    refine j_getR (u := 45) hc dX11_back_13 (fgC_X11_70_0 _) (rC_0_8 _) ?_
    refine j_aload_n hc dX11_back_16 rfl ?_
    refine j_getR (u := 39) hc dX11_back_17 (fgC_X11_56_0 _) (rC_0_6 _) ?_
    refine j_aload_n hc dX11_back_20 rfl ?_
    refine j_getR (u := 42) hc dX11_back_21 (fgC_X11_63_0 _) (rC_0_7 _) ?_
    refine j_callVV (t := 45) (As := [.ref 39, .ref 42]) hc dX11_back_24 kw_1070 mX6_bringImageBack (kC_45 _) clX6 rfl (by omega) (Nat.le_of_ble_eq_true rfl) (Nat.le_of_ble_eq_true rfl) ⟨Nat.le_refl _, Nat.le_refl _⟩ hf (fun I' L' h => qX6_bringImageBack_road_logbook x.2.1 n d I L I' L' h) (fun I1 L1 hf => ?_)
    refine j_aload_n hc dX11_back_27 rfl ?_
    refine j_getR (u := 39) hc dX11_back_28 (fgC_X11_56_0 _) (rC_0_6 _) ?_
    refine j_getI hc dX11_back_31 (fgC_X11_215_39 _) ?_
    exact j_ireturn hc dX11_back_34 rfl rfl hf
  · refine j_iconst (v := (-1 : Int32)) hc dX11_back_10 ci_m1 ?_
    exact j_ireturn hc dX11_back_11 rfl rfl hf

set_option maxRecDepth 100000 in
theorem qX11_back (l : Launch) {al : Bool} (n d : Nat) (I : am_I) (L : am_L) (r : Int32) (I' : am_I) (L' : am_L) (hf : fX11_back n d I L = some (r, I', L')) : am_C l yX11_back cX11_back 1 (some .int) (d + 8) [.ref 0] (KC al) (RC al) I L (some (.int r)) I' L' := by
  exact am_intro (plainFor_of_name plX11) (fun _ _ => trivial) (Nat.le_of_ble_eq_true rfl) (fun x hl hc => by subst hl; exact j_sub (tX11_back n d hc  _ _ hf) (And.intro rfl (trivial)))
set_option maxRecDepth 100000 in
def fX11_count (n d : Nat) (a1 : Int32) (I : am_I) (L : am_L) : Option (Int32 × am_I × am_L) :=
  am_sw a1 0 [some ((I 3 0), I, L), some ((I 3 1), I, L), some ((I 29 5), I, L), some ((I 1 1), I, L), some ((I 29 6), I, L), some ((I 39 5), I, L), some ((I 3 2), I, L), some ((I 3 3), I, L), some ((I 39 6), I, L), some ((I 60 5), I, L), am_b3 (fX5_length n d I L) (fun v1 I1 L1 => some (v1, I1, L1)), some ((I 45 6), I, L)] (some ((-1000000 : Int32), I, L))

set_option maxRecDepth 100000 in
set_option maxHeartbeats 4000000 in
theorem tX11_count {x : am_X} {al : Bool} (n d : Nat) (hc : am_ok x cX11_count yX11_count 2 (some .int) (d + 3) 0 0) {r : Int32} {I' : am_I} {L' : am_L} (a1 : Int32) (I : am_I) (L : am_L) (hf : fX11_count n d a1 I L = some (r, I', L')) : am_J x (fun S => S = (some (.int r), (KC al), (RC al), I', L')) 0 [some (.ref 0), some (.int a1)] [] (KC al) (RC al) I L 0 0 := by
  unfold fX11_count at hf
  refine j_iload_n hc dX11_count_0 rfl ?_
  refine j_tab (lo := 0) (tgt := 160) hc dX11_count_1 rfl rfl rfl hf (fun hf => ?_) (fun k K off tgt2 hK ho ht hf => ?_) (fun k off ho => ?_)
  · refine j_ldc (v := (-1000000 : Int32)) hc dX11_count_160 kw_890 ?_
    exact j_ireturn hc dX11_count_162 rfl rfl hf
  · match k, hK, ho with
    | 0, hK, ho =>
      cases hK
      have ho : (63 : Int) = off := Option.some.inj ho
      subst ho
      have ht : tgt2 = 64 := by omega
      subst ht
      refine j_aload_n hc dX11_count_64 rfl ?_
      refine j_getR (u := 3) hc dX11_count_65 (fgC_X11_19_0 _) (rC_0_1 _) ?_
      refine j_getI hc dX11_count_68 (fgC_X11_151_3 _) ?_
      exact j_ireturn hc dX11_count_71 rfl rfl hf
    | 1, hK, ho =>
      cases hK
      have ho : (71 : Int) = off := Option.some.inj ho
      subst ho
      have ht : tgt2 = 72 := by omega
      subst ht
      refine j_aload_n hc dX11_count_72 rfl ?_
      refine j_getR (u := 3) hc dX11_count_73 (fgC_X11_19_0 _) (rC_0_1 _) ?_
      refine j_getI hc dX11_count_76 (fgC_X11_194_3 _) ?_
      exact j_ireturn hc dX11_count_79 rfl rfl hf
    | 2, hK, ho =>
      cases hK
      have ho : (79 : Int) = off := Option.some.inj ho
      subst ho
      have ht : tgt2 = 80 := by omega
      subst ht
      refine j_aload_n hc dX11_count_80 rfl ?_
      refine j_getR (u := 29) hc dX11_count_81 (fgC_X11_47_0 _) (rC_0_5 _) ?_
      refine j_getI hc dX11_count_84 (fgC_X11_129_29 _) ?_
      exact j_ireturn hc dX11_count_87 rfl rfl hf
    | 3, hK, ho =>
      cases hK
      have ho : (87 : Int) = off := Option.some.inj ho
      subst ho
      have ht : tgt2 = 88 := by omega
      subst ht
      refine j_aload_n hc dX11_count_88 rfl ?_
      refine j_getR (u := 1) hc dX11_count_89 (fgC_X11_10_0 _) (rC_0_0 _) ?_
      refine j_getI hc dX11_count_92 (fgC_X11_113_1 _) ?_
      exact j_ireturn hc dX11_count_95 rfl rfl hf
    | 4, hK, ho =>
      cases hK
      have ho : (95 : Int) = off := Option.some.inj ho
      subst ho
      have ht : tgt2 = 96 := by omega
      subst ht
      refine j_aload_n hc dX11_count_96 rfl ?_
      refine j_getR (u := 29) hc dX11_count_97 (fgC_X11_47_0 _) (rC_0_5 _) ?_
      refine j_getI hc dX11_count_100 (fgC_X11_206_29 _) ?_
      exact j_ireturn hc dX11_count_103 rfl rfl hf
    | 5, hK, ho =>
      cases hK
      have ho : (103 : Int) = off := Option.some.inj ho
      subst ho
      have ht : tgt2 = 104 := by omega
      subst ht
      refine j_aload_n hc dX11_count_104 rfl ?_
      refine j_getR (u := 39) hc dX11_count_105 (fgC_X11_56_0 _) (rC_0_6 _) ?_
      refine j_getI hc dX11_count_108 (fgC_X11_215_39 _) ?_
      exact j_ireturn hc dX11_count_111 rfl rfl hf
    | 6, hK, ho =>
      cases hK
      have ho : (111 : Int) = off := Option.some.inj ho
      subst ho
      have ht : tgt2 = 112 := by omega
      subst ht
      refine j_aload_n hc dX11_count_112 rfl ?_
      refine j_getR (u := 3) hc dX11_count_113 (fgC_X11_19_0 _) (rC_0_1 _) ?_
      refine j_getI hc dX11_count_116 (fgC_X11_218_3 _) ?_
      exact j_ireturn hc dX11_count_119 rfl rfl hf
    | 7, hK, ho =>
      cases hK
      have ho : (119 : Int) = off := Option.some.inj ho
      subst ho
      have ht : tgt2 = 120 := by omega
      subst ht
      refine j_aload_n hc dX11_count_120 rfl ?_
      refine j_getR (u := 3) hc dX11_count_121 (fgC_X11_19_0 _) (rC_0_1 _) ?_
      refine j_getI hc dX11_count_124 (fgC_X11_221_3 _) ?_
      exact j_ireturn hc dX11_count_127 rfl rfl hf
    | 8, hK, ho =>
      cases hK
      have ho : (127 : Int) = off := Option.some.inj ho
      subst ho
      have ht : tgt2 = 128 := by omega
      subst ht
      refine j_aload_n hc dX11_count_128 rfl ?_
      refine j_getR (u := 39) hc dX11_count_129 (fgC_X11_56_0 _) (rC_0_6 _) ?_
      refine j_getI hc dX11_count_132 (fgC_X11_224_39 _) ?_
      exact j_ireturn hc dX11_count_135 rfl rfl hf
    | 9, hK, ho =>
      cases hK
      have ho : (135 : Int) = off := Option.some.inj ho
      subst ho
      have ht : tgt2 = 136 := by omega
      subst ht
      refine j_aload_n hc dX11_count_136 rfl ?_
      refine j_getR (u := 60) hc dX11_count_137 (fgC_X11_93_0 _) (rC_0_11 _) ?_
      refine j_getI hc dX11_count_140 (fgC_X11_150_60 _) ?_
      exact j_ireturn hc dX11_count_143 rfl rfl hf
    | 10, hK, ho =>
      cases hK
      have ho : (143 : Int) = off := Option.some.inj ho
      subst ho
      have ht : tgt2 = 144 := by omega
      subst ht
      refine j_aload_n hc dX11_count_144 rfl ?_
      refine j_getR (u := 42) hc dX11_count_145 (fgC_X11_63_0 _) (rC_0_7 _) ?_
      refine j_callVI (t := 42) (As := []) hc dX11_count_148 kw_885 mX5_length (kC_42 _) clX5 rfl (by omega) (Nat.le_of_ble_eq_true rfl) (Nat.le_of_ble_eq_true rfl) ⟨Nat.le_refl _, Nat.le_refl _⟩ hf (fun v I' L' h => qX5_length x.2.1 n d I L v I' L' h) (fun v1 I1 L1 hf => ?_)
      exact j_ireturn hc dX11_count_151 rfl rfl hf
    | 11, hK, ho =>
      cases hK
      have ho : (151 : Int) = off := Option.some.inj ho
      subst ho
      have ht : tgt2 = 152 := by omega
      subst ht
      refine j_aload_n hc dX11_count_152 rfl ?_
      refine j_getR (u := 45) hc dX11_count_153 (fgC_X11_70_0 _) (rC_0_8 _) ?_
      refine j_getI hc dX11_count_156 (fgC_X11_229_45 _) ?_
      exact j_ireturn hc dX11_count_159 rfl rfl hf
    | k + 12, hK, ho => simp at hK
  · match k, ho with
    | 0, ho => have ho : (63 : Int) = off := Option.some.inj ho; subst ho; exact ⟨64, rfl⟩
    | 1, ho => have ho : (71 : Int) = off := Option.some.inj ho; subst ho; exact ⟨72, rfl⟩
    | 2, ho => have ho : (79 : Int) = off := Option.some.inj ho; subst ho; exact ⟨80, rfl⟩
    | 3, ho => have ho : (87 : Int) = off := Option.some.inj ho; subst ho; exact ⟨88, rfl⟩
    | 4, ho => have ho : (95 : Int) = off := Option.some.inj ho; subst ho; exact ⟨96, rfl⟩
    | 5, ho => have ho : (103 : Int) = off := Option.some.inj ho; subst ho; exact ⟨104, rfl⟩
    | 6, ho => have ho : (111 : Int) = off := Option.some.inj ho; subst ho; exact ⟨112, rfl⟩
    | 7, ho => have ho : (119 : Int) = off := Option.some.inj ho; subst ho; exact ⟨120, rfl⟩
    | 8, ho => have ho : (127 : Int) = off := Option.some.inj ho; subst ho; exact ⟨128, rfl⟩
    | 9, ho => have ho : (135 : Int) = off := Option.some.inj ho; subst ho; exact ⟨136, rfl⟩
    | 10, ho => have ho : (143 : Int) = off := Option.some.inj ho; subst ho; exact ⟨144, rfl⟩
    | 11, ho => have ho : (151 : Int) = off := Option.some.inj ho; subst ho; exact ⟨152, rfl⟩
    | k + 12, ho => simp at ho

set_option maxRecDepth 100000 in
theorem qX11_count (l : Launch) {al : Bool} (n d : Nat) (a1 : Int32) (I : am_I) (L : am_L) (r : Int32) (I' : am_I) (L' : am_L) (hf : fX11_count n d a1 I L = some (r, I', L')) : am_C l yX11_count cX11_count 2 (some .int) (d + 3) [.ref 0, .int a1] (KC al) (RC al) I L (some (.int r)) I' L' := by
  exact am_intro (plainFor_of_name plX11) (fun _ _ => trivial) (Nat.le_of_ble_eq_true rfl) (fun x hl hc => by subst hl; exact j_sub (tX11_count n d hc _ _ _ hf) (And.intro rfl (And.intro rfl (trivial))))
set_option maxRecDepth 100000 in
def fX11_mayDuel (n d : Nat) (a1 : Int32) (a2 : Int32) (I : am_I) (L : am_L) : Option (Int32 × am_I × am_L) :=
  am_b3 (fX9_hasMan_war n d a1 I L) (fun v1 I1 L1 => if v1 = 0 then
    (some ((0 : Int32), I1, L1))
    else
    (am_b3 (fX9_hasMan_war n d a2 I1 L1) (fun v2 I2 L2 => if v2 = 0 then
      (some ((0 : Int32), I2, L2))
      else
      (if a1 = a2 then
        (some ((0 : Int32), I2, L2))
        else
        (am_b3 (fX7_canGo n d a1 I2 L2) (fun v3 I3 L3 => if v3 = 0 then
          (some ((0 : Int32), I3, L3))
          else
          (am_b3 (fX7_canGo n d a2 I3 L3) (fun v4 I4 L4 => if v4 = 0 then
            (some ((0 : Int32), I4, L4))
            else
            (some ((1 : Int32), I4, L4))))))))))

set_option maxRecDepth 100000 in
set_option maxHeartbeats 4000000 in
theorem tX11_mayDuel {x : am_X} {al : Bool} (n d : Nat) (hc : am_ok x cX11_mayDuel yX11_mayDuel 3 (some .boolean) (d + 2) 0 0) {r : Int32} {I' : am_I} {L' : am_L} (a1 : Int32) (a2 : Int32) (I : am_I) (L : am_L) (hf : fX11_mayDuel n d a1 a2 I L = some (r, I', L')) : am_J x (fun S => S = (some (.int r), (KC al), (RC al), I', L')) 0 [some (.ref 0), some (.int a1), some (.int a2)] [] (KC al) (RC al) I L 0 0 := by
  unfold fX11_mayDuel at hf
  refine j_aload_n hc dX11_mayDuel_0 rfl ?_
  refine j_getR (u := 3) hc dX11_mayDuel_1 (fgC_X11_19_0 _) (rC_0_1 _) ?_
  refine j_iload_n hc dX11_mayDuel_4 rfl ?_
  refine j_callVI (t := 3) (As := [.int a1]) hc dX11_mayDuel_5 kw_978 mX9_hasMan (kC_3 _) clX9 rfl (by omega) (Nat.le_of_ble_eq_true rfl) (Nat.le_of_ble_eq_true rfl) ⟨Nat.le_refl _, Nat.le_refl _⟩ hf (fun v I' L' h => qX9_hasMan_war x.2.1 n d a1 I L v I' L' h) (fun v1 I1 L1 hf => ?_)
  refine j_if_eq (tgt := 53) hc dX11_mayDuel_8 rfl hf (fun hf => ?_) (fun hf => ?_)
  · refine j_iconst (v := (0 : Int32)) hc dX11_mayDuel_53 ci_0 ?_
    exact j_zret hc dX11_mayDuel_54 rfl rfl (Or.inl rfl) hf
  · refine j_aload_n hc dX11_mayDuel_11 rfl ?_
    refine j_getR (u := 3) hc dX11_mayDuel_12 (fgC_X11_19_0 _) (rC_0_1 _) ?_
    refine j_iload_n hc dX11_mayDuel_15 rfl ?_
    refine j_callVI (t := 3) (As := [.int a2]) hc dX11_mayDuel_16 kw_978 mX9_hasMan (kC_3 _) clX9 rfl (by omega) (Nat.le_of_ble_eq_true rfl) (Nat.le_of_ble_eq_true rfl) ⟨Nat.le_refl _, Nat.le_refl _⟩ hf (fun v I' L' h => qX9_hasMan_war x.2.1 n d a2 I1 L1 v I' L' h) (fun v2 I2 L2 hf => ?_)
    refine j_if_eq (tgt := 53) hc dX11_mayDuel_19 rfl hf (fun hf => ?_) (fun hf => ?_)
    · refine j_iconst (v := (0 : Int32)) hc dX11_mayDuel_53 ci_0 ?_
      exact j_zret hc dX11_mayDuel_54 rfl rfl (Or.inl rfl) hf
    · refine j_iload_n hc dX11_mayDuel_22 rfl ?_
      refine j_iload_n hc dX11_mayDuel_23 rfl ?_
      refine j_icmp_eq (tgt := 53) hc dX11_mayDuel_24 rfl hf (fun hf => ?_) (fun hf => ?_)
      · refine j_iconst (v := (0 : Int32)) hc dX11_mayDuel_53 ci_0 ?_
        exact j_zret hc dX11_mayDuel_54 rfl rfl (Or.inl rfl) hf
      · refine j_aload_n hc dX11_mayDuel_27 rfl ?_
        refine j_getR (u := 39) hc dX11_mayDuel_28 (fgC_X11_56_0 _) (rC_0_6 _) ?_
        refine j_iload_n hc dX11_mayDuel_31 rfl ?_
        refine j_callVI (t := 39) (As := [.int a1]) hc dX11_mayDuel_32 kw_916 mX7_canGo (kC_39 _) clX7 rfl (by omega) (Nat.le_of_ble_eq_true rfl) (Nat.le_of_ble_eq_true rfl) ⟨Nat.le_refl _, Nat.le_refl _⟩ hf (fun v I' L' h => qX7_canGo x.2.1 n d a1 I2 L2 v I' L' h) (fun v3 I3 L3 hf => ?_)
        refine j_if_eq (tgt := 53) hc dX11_mayDuel_35 rfl hf (fun hf => ?_) (fun hf => ?_)
        · refine j_iconst (v := (0 : Int32)) hc dX11_mayDuel_53 ci_0 ?_
          exact j_zret hc dX11_mayDuel_54 rfl rfl (Or.inl rfl) hf
        · refine j_aload_n hc dX11_mayDuel_38 rfl ?_
          refine j_getR (u := 39) hc dX11_mayDuel_39 (fgC_X11_56_0 _) (rC_0_6 _) ?_
          refine j_iload_n hc dX11_mayDuel_42 rfl ?_
          refine j_callVI (t := 39) (As := [.int a2]) hc dX11_mayDuel_43 kw_916 mX7_canGo (kC_39 _) clX7 rfl (by omega) (Nat.le_of_ble_eq_true rfl) (Nat.le_of_ble_eq_true rfl) ⟨Nat.le_refl _, Nat.le_refl _⟩ hf (fun v I' L' h => qX7_canGo x.2.1 n d a2 I3 L3 v I' L' h) (fun v4 I4 L4 hf => ?_)
          refine j_if_eq (tgt := 53) hc dX11_mayDuel_46 rfl hf (fun hf => ?_) (fun hf => ?_)
          · refine j_iconst (v := (0 : Int32)) hc dX11_mayDuel_53 ci_0 ?_
            exact j_zret hc dX11_mayDuel_54 rfl rfl (Or.inl rfl) hf
          · refine j_iconst (v := (1 : Int32)) hc dX11_mayDuel_49 ci_1 ?_
            refine j_goto (tgt := 54) hc dX11_mayDuel_50 rfl ?_
            exact j_zret hc dX11_mayDuel_54 rfl rfl (Or.inr rfl) hf

set_option maxRecDepth 100000 in
theorem qX11_mayDuel (l : Launch) {al : Bool} (n d : Nat) (a1 : Int32) (a2 : Int32) (I : am_I) (L : am_L) (r : Int32) (I' : am_I) (L' : am_L) (hf : fX11_mayDuel n d a1 a2 I L = some (r, I', L')) : am_C l yX11_mayDuel cX11_mayDuel 3 (some .boolean) (d + 2) [.ref 0, .int a1, .int a2] (KC al) (RC al) I L (some (.int r)) I' L' := by
  exact am_intro (plainFor_of_name plX11) (fun _ _ => trivial) (Nat.le_of_ble_eq_true rfl) (fun x hl hc => by subst hl; exact j_sub (tX11_mayDuel n d hc _ _ _ _ hf) (And.intro rfl (And.intro rfl (And.intro rfl (trivial)))))
set_option maxRecDepth 100000 in
def fX0_place (n d : Nat) (a1 : Int32) (a2 : Int32) (I : am_I) (L : am_L) : Option (Int32 × am_I × am_L) :=
  if a1 < 0 then
    (some ((0 : Int32), I, L))
    else
    (if (20 : Int32) < a1 then
      (some ((0 : Int32), I, L))
      else
      (am_ck a1 21 (am_lt (I 52 (a1).toNatClampNeg) (fun v1 => some ((v1 + a2), I, L)))))

set_option maxRecDepth 100000 in
set_option maxHeartbeats 4000000 in
theorem tX0_place {x : am_X} {al : Bool} (n d : Nat) (hc : am_ok x cX0_place yX0_place 3 (some .int) (d + 1) 0 0) {r : Int32} {I' : am_I} {L' : am_L} (a1 : Int32) (a2 : Int32) (I : am_I) (L : am_L) (hf : fX0_place n d a1 a2 I L = some (r, I', L')) : am_J x (fun S => S = (some (.int r), (KC al), (RC al), I', L')) 0 [some (.ref 51), some (.int a1), some (.int a2)] [] (KC al) (RC al) I L 0 0 := by
  unfold fX0_place at hf
  refine j_iload_n hc dX0_place_0 rfl ?_
  refine j_if_lt (tgt := 21) hc dX0_place_1 rfl hf (fun hf => ?_) (fun hf => ?_)
  · refine j_iconst (v := (0 : Int32)) hc dX0_place_21 ci_0 ?_
    exact j_ireturn hc dX0_place_22 rfl rfl hf
  · refine j_iload_n hc dX0_place_4 rfl ?_
    refine j_bipush (v := (20 : Int32)) hc dX0_place_5 cb_20 ?_
    refine j_icmp_gt (tgt := 21) hc dX0_place_7 rfl hf (fun hf => ?_) (fun hf => ?_)
    · refine j_iconst (v := (0 : Int32)) hc dX0_place_21 ci_0 ?_
      exact j_ireturn hc dX0_place_22 rfl rfl hf
    · refine j_aload_n hc dX0_place_10 rfl ?_
      refine j_getR (u := 52) hc dX0_place_11 (fgC_X0_13_51 _) (rC_51_0 _) ?_
      refine j_iload_n hc dX0_place_14 rfl ?_
      refine j_iaload (n := 21) hc dX0_place_15 (kC_52 _) hf (fun v1 hf => ?_)
      refine j_iload_n hc dX0_place_16 rfl ?_
      refine j_iadd hc dX0_place_17 ?_
      refine j_goto (tgt := 22) hc dX0_place_18 rfl ?_
      exact j_ireturn hc dX0_place_22 rfl rfl hf

set_option maxRecDepth 100000 in
theorem qX0_place (l : Launch) {al : Bool} (n d : Nat) (a1 : Int32) (a2 : Int32) (I : am_I) (L : am_L) (r : Int32) (I' : am_I) (L' : am_L) (hf : fX0_place n d a1 a2 I L = some (r, I', L')) : am_C l yX0_place cX0_place 3 (some .int) (d + 1) [.ref 51, .int a1, .int a2] (KC al) (RC al) I L (some (.int r)) I' L' := by
  exact am_intro (plainFor_of_name plX0) (fun _ _ => trivial) (Nat.le_of_ble_eq_true rfl) (fun x hl hc => by subst hl; exact j_sub (tX0_place n d hc _ _ _ _ hf) (And.intro rfl (And.intro rfl (And.intro rfl (trivial)))))
set_option maxRecDepth 100000 in
def fX11_placeOf (n d : Nat) (a1 : Int32) (I : am_I) (L : am_L) : Option (Int32 × am_I × am_L) :=
  am_ck a1 8 (am_lt (I 40 (a1).toNatClampNeg) (fun v1 => am_ck a1 8 (am_lt (I 41 (a1).toNatClampNeg) (fun v2 => am_b3 (fX0_place n d v1 v2 I L) (fun v3 I3 L3 => some (v3, I3, L3))))))

set_option maxRecDepth 100000 in
set_option maxHeartbeats 4000000 in
theorem tX11_placeOf {x : am_X} {al : Bool} (n d : Nat) (hc : am_ok x cX11_placeOf yX11_placeOf 2 (some .int) (d + 2) 0 0) {r : Int32} {I' : am_I} {L' : am_L} (a1 : Int32) (I : am_I) (L : am_L) (hf : fX11_placeOf n d a1 I L = some (r, I', L')) : am_J x (fun S => S = (some (.int r), (KC al), (RC al), I', L')) 0 [some (.ref 0), some (.int a1)] [] (KC al) (RC al) I L 0 0 := by
  unfold fX11_placeOf at hf
  refine j_aload_n hc dX11_placeOf_0 rfl ?_
  refine j_getR (u := 51) hc dX11_placeOf_1 (fgC_X11_77_0 _) (rC_0_9 _) ?_
  refine j_aload_n hc dX11_placeOf_4 rfl ?_
  refine j_getR (u := 39) hc dX11_placeOf_5 (fgC_X11_56_0 _) (rC_0_6 _) ?_
  refine j_getR (u := 40) hc dX11_placeOf_8 (fgC_X11_168_39 _) (rC_39_2 _) ?_
  refine j_iload_n hc dX11_placeOf_11 rfl ?_
  refine j_iaload (n := 8) hc dX11_placeOf_12 (kC_40 _) hf (fun v1 hf => ?_)
  refine j_aload_n hc dX11_placeOf_13 rfl ?_
  refine j_getR (u := 39) hc dX11_placeOf_14 (fgC_X11_56_0 _) (rC_0_6 _) ?_
  refine j_getR (u := 41) hc dX11_placeOf_17 (fgC_X11_183_39 _) (rC_39_3 _) ?_
  refine j_iload_n hc dX11_placeOf_20 rfl ?_
  refine j_iaload (n := 8) hc dX11_placeOf_21 (kC_41 _) hf (fun v2 hf => ?_)
  refine j_callVI (t := 51) (As := [.int v1, .int v2]) hc dX11_placeOf_22 kw_1098 mX0_place (kC_51 _) clX0 rfl (by omega) (Nat.le_of_ble_eq_true rfl) (Nat.le_of_ble_eq_true rfl) ⟨Nat.le_refl _, Nat.le_refl _⟩ hf (fun v I' L' h => qX0_place x.2.1 n d v1 v2 I L v I' L' h) (fun v3 I3 L3 hf => ?_)
  exact j_ireturn hc dX11_placeOf_25 rfl rfl hf

set_option maxRecDepth 100000 in
theorem qX11_placeOf (l : Launch) {al : Bool} (n d : Nat) (a1 : Int32) (I : am_I) (L : am_L) (r : Int32) (I' : am_I) (L' : am_L) (hf : fX11_placeOf n d a1 I L = some (r, I', L')) : am_C l yX11_placeOf cX11_placeOf 2 (some .int) (d + 2) [.ref 0, .int a1] (KC al) (RC al) I L (some (.int r)) I' L' := by
  exact am_intro (plainFor_of_name plX11) (fun _ _ => trivial) (Nat.le_of_ble_eq_true rfl) (fun x hl hc => by subst hl; exact j_sub (tX11_placeOf n d hc _ _ _ hf) (And.intro rfl (And.intro rfl (trivial))))
set_option maxRecDepth 100000 in
def fX11_farthestPlace_b38 (n d : Nat) (k4 : Int32 → Int32 → Int32 → am_I → am_L → Option (Int32 × am_I × am_L)) (a1 : Int32) (a2 : Int32) (a3 : Int32) (I : am_I) (L : am_L) : Option (Int32 × am_I × am_L) :=
  am_lt (a3 + (1 : Int32)) (fun v1 => k4 a1 a2 v1 I L)

set_option maxRecDepth 100000 in
set_option maxHeartbeats 4000000 in
theorem tX11_farthestPlace_b38 {x : am_X} {al : Bool} (n d : Nat) (hc : am_ok x cX11_farthestPlace yX11_farthestPlace 4 (some .int) (d + 3) 0 0) {r : Int32} {I' : am_I} {L' : am_L} (k4 : Int32 → Int32 → Int32 → am_I → am_L → Option (Int32 × am_I × am_L)) (hk4 : ∀ (a1 : Int32) (a2 : Int32) (a3 : Int32) (I : am_I) (L : am_L), k4 a1 a2 a3 I L = some (r, I', L') → am_J x (fun S => S = (some (.int r), (KC al), (RC al), I', L')) 4 [some (.ref 0), some (.int a1), some (.int a2), some (.int a3)] [] (KC al) (RC al) I L 0 0) (a1 : Int32) (a2 : Int32) (a3 : Int32) (I : am_I) (L : am_L) (hf : fX11_farthestPlace_b38 n d k4 a1 a2 a3 I L = some (r, I', L')) : am_J x (fun S => S = (some (.int r), (KC al), (RC al), I', L')) 38 [some (.ref 0), some (.int a1), some (.int a2), some (.int a3)] [] (KC al) (RC al) I L 0 0 := by
  unfold fX11_farthestPlace_b38 at hf
  refine j_iinc (w := (1 : Int32)) hc dX11_farthestPlace_38 rfl ci_1 (Nat.le_of_ble_eq_true rfl) hf (fun v1 hf => ?_)
  refine j_goto (tgt := 4) hc dX11_farthestPlace_41 rfl ?_
  exact j_sub (hk4 _ _ _ _ _ hf) (And.intro rfl (And.intro rfl (And.intro rfl (And.intro rfl (trivial)))))

set_option maxRecDepth 100000 in
def fX11_farthestPlace_b4w (n d : Nat) (k4 : Int32 → Int32 → Int32 → am_I → am_L → Option (Int32 × am_I × am_L)) (a1 : Int32) (a2 : Int32) (a3 : Int32) (I : am_I) (L : am_L) : Option (Int32 × am_I × am_L) :=
  if (I 3 0) ≤ a3 then
    (some (a2, I, L))
    else
    (am_ck a3 8 (am_lt (I 6 (a3).toNatClampNeg) (fun v1 => if v1 = a1 then
      (am_b3 (fX11_placeOf n d a3 I L) (fun v2 I2 L2 => am_b3 (fJ9_max_7cf53 n d a2 v2 I2 L2) (fun v3 I3 L3 => am_lt v3 (fun v4 => fX11_farthestPlace_b38 n d k4 a1 v4 a3 I3 L3))))
      else
      (fX11_farthestPlace_b38 n d k4 a1 a2 a3 I L))))

set_option maxRecDepth 100000 in
set_option maxHeartbeats 4000000 in
theorem tX11_farthestPlace_b4w {x : am_X} {al : Bool} (n d : Nat) (hc : am_ok x cX11_farthestPlace yX11_farthestPlace 4 (some .int) (d + 3) 0 0) {r : Int32} {I' : am_I} {L' : am_L} (k4 : Int32 → Int32 → Int32 → am_I → am_L → Option (Int32 × am_I × am_L)) (hk4 : ∀ (a1 : Int32) (a2 : Int32) (a3 : Int32) (I : am_I) (L : am_L), k4 a1 a2 a3 I L = some (r, I', L') → am_J x (fun S => S = (some (.int r), (KC al), (RC al), I', L')) 4 [some (.ref 0), some (.int a1), some (.int a2), some (.int a3)] [] (KC al) (RC al) I L 0 0) (a1 : Int32) (a2 : Int32) (a3 : Int32) (I : am_I) (L : am_L) (hf : fX11_farthestPlace_b4w n d k4 a1 a2 a3 I L = some (r, I', L')) : am_J x (fun S => S = (some (.int r), (KC al), (RC al), I', L')) 4 [some (.ref 0), some (.int a1), some (.int a2), some (.int a3)] [] (KC al) (RC al) I L 0 0 := by
  unfold fX11_farthestPlace_b4w at hf
  refine j_iload_n hc dX11_farthestPlace_4 rfl ?_
  refine j_aload_n hc dX11_farthestPlace_5 rfl ?_
  refine j_getR (u := 3) hc dX11_farthestPlace_6 (fgC_X11_19_0 _) (rC_0_1 _) ?_
  refine j_getI hc dX11_farthestPlace_9 (fgC_X11_151_3 _) ?_
  refine j_icmp_ge (tgt := 44) hc dX11_farthestPlace_12 rfl hf (fun hf => ?_) (fun hf => ?_)
  · refine j_iload_n hc dX11_farthestPlace_44 rfl ?_
    exact j_ireturn hc dX11_farthestPlace_45 rfl rfl hf
  · refine j_aload_n hc dX11_farthestPlace_15 rfl ?_
    refine j_getR (u := 3) hc dX11_farthestPlace_16 (fgC_X11_19_0 _) (rC_0_1 _) ?_
    refine j_getR (u := 6) hc dX11_farthestPlace_19 (fgC_X11_171_3 _) (rC_3_7 _) ?_
    refine j_iload_n hc dX11_farthestPlace_22 rfl ?_
    refine j_iaload (n := 8) hc dX11_farthestPlace_23 (kC_6 _) hf (fun v1 hf => ?_)
    refine j_iload_n hc dX11_farthestPlace_24 rfl ?_
    refine j_icmp_ne (tgt := 38) hc dX11_farthestPlace_25 rfl hf (fun hf => ?_) (fun hf => ?_)
    · exact j_sub (tX11_farthestPlace_b38 n d hc k4 hk4 _ _ _ _ _ hf) (And.intro rfl (And.intro rfl (And.intro rfl (And.intro rfl (trivial)))))
    · refine j_iload_n hc dX11_farthestPlace_28 rfl ?_
      refine j_aload_n hc dX11_farthestPlace_29 rfl ?_
      refine j_iload_n hc dX11_farthestPlace_30 rfl ?_
      refine j_callVI (t := 0) (As := [.int a3]) hc dX11_farthestPlace_31 kw_1094 mX11_placeOf (kC_0 _) clX11 rfl (by omega) (Nat.le_of_ble_eq_true rfl) (Nat.le_of_ble_eq_true rfl) ⟨Nat.le_refl _, Nat.le_refl _⟩ hf (fun v I' L' h => qX11_placeOf x.2.1 n d a3 I L v I' L' h) (fun v2 I2 L2 hf => ?_)
      refine j_callSI (As := [.int a2, .int v2]) hc dX11_farthestPlace_34 kw_1102 mJ9_max_7cf53  rfl (by omega) (Nat.le_of_ble_eq_true rfl) (Nat.le_of_ble_eq_true rfl) ⟨Nat.le_refl _, Nat.le_refl _⟩ hf (fun v I' L' h => qJ9_max_7cf53 x.2.1 n d a2 v2 I2 L2 v I' L' h) (fun v3 I3 L3 hf => ?_)
      refine j_istore_n hc dX11_farthestPlace_37 (Nat.le_of_ble_eq_true rfl) hf (fun v4 hf => ?_)
      exact j_sub (tX11_farthestPlace_b38 n d hc k4 hk4 _ _ _ _ _ hf) (And.intro rfl (And.intro rfl (And.intro rfl (And.intro rfl (trivial)))))

def fX11_farthestPlace_b4 (n d : Nat) : Nat → Int32 → Int32 → Int32 → am_I → am_L → Option (Int32 × am_I × am_L)
  | 0 => fun _ _ _ _ _ => none
  | m + 1 => fX11_farthestPlace_b4w n d  (fX11_farthestPlace_b4 n d m)

set_option maxRecDepth 100000 in
theorem tX11_farthestPlace_b4 {x : am_X} {al : Bool} (n d : Nat) (hc : am_ok x cX11_farthestPlace yX11_farthestPlace 4 (some .int) (d + 3) 0 0) {r : Int32} {I' : am_I} {L' : am_L} (m : Nat) : ∀ (a1 : Int32) (a2 : Int32) (a3 : Int32) (I : am_I) (L : am_L) (hf : fX11_farthestPlace_b4 n d m a1 a2 a3 I L = some (r, I', L')), am_J x (fun S => S = (some (.int r), (KC al), (RC al), I', L')) 4 [some (.ref 0), some (.int a1), some (.int a2), some (.int a3)] [] (KC al) (RC al) I L 0 0 := by
  induction m with
  | zero => intro a1 a2 a3 I L hf; exact (Option.some_ne_none _ hf.symm).elim
  | succ m ih => intro a1 a2 a3 I L hf; exact tX11_farthestPlace_b4w n d hc (fX11_farthestPlace_b4 n d m) ih a1 a2 a3 I L hf

set_option maxRecDepth 100000 in
def fX11_farthestPlace (n d : Nat) (a1 : Int32) (I : am_I) (L : am_L) : Option (Int32 × am_I × am_L) :=
  am_lt (0 : Int32) (fun v1 => am_lt (0 : Int32) (fun v2 => fX11_farthestPlace_b4 n d n a1 v1 v2 I L))

set_option maxRecDepth 100000 in
set_option maxHeartbeats 4000000 in
theorem tX11_farthestPlace {x : am_X} {al : Bool} (n d : Nat) (hc : am_ok x cX11_farthestPlace yX11_farthestPlace 4 (some .int) (d + 3) 0 0) {r : Int32} {I' : am_I} {L' : am_L} (a1 : Int32) (I : am_I) (L : am_L) (hf : fX11_farthestPlace n d a1 I L = some (r, I', L')) : am_J x (fun S => S = (some (.int r), (KC al), (RC al), I', L')) 0 [some (.ref 0), some (.int a1), none, none] [] (KC al) (RC al) I L 0 0 := by
  unfold fX11_farthestPlace at hf
  refine j_iconst (v := (0 : Int32)) hc dX11_farthestPlace_0 ci_0 ?_
  refine j_istore_n hc dX11_farthestPlace_1 (Nat.le_of_ble_eq_true rfl) hf (fun v1 hf => ?_)
  refine j_iconst (v := (0 : Int32)) hc dX11_farthestPlace_2 ci_0 ?_
  refine j_istore_n hc dX11_farthestPlace_3 (Nat.le_of_ble_eq_true rfl) hf (fun v2 hf => ?_)
  exact j_sub (tX11_farthestPlace_b4 n d hc n _ _ _ _ _ hf) (And.intro rfl (And.intro rfl (And.intro rfl (And.intro rfl (trivial)))))

set_option maxRecDepth 100000 in
theorem qX11_farthestPlace (l : Launch) {al : Bool} (n d : Nat) (a1 : Int32) (I : am_I) (L : am_L) (r : Int32) (I' : am_I) (L' : am_L) (hf : fX11_farthestPlace n d a1 I L = some (r, I', L')) : am_C l yX11_farthestPlace cX11_farthestPlace 4 (some .int) (d + 3) [.ref 0, .int a1] (KC al) (RC al) I L (some (.int r)) I' L' := by
  exact am_intro (plainFor_of_name plX11) (fun _ _ => trivial) (Nat.le_of_ble_eq_true rfl) (fun x hl hc => by subst hl; exact j_sub (tX11_farthestPlace n d hc _ _ _ hf) (And.intro rfl (And.intro rfl (trivial))))
set_option maxRecDepth 100000 in
def fX0_findPressed_c51_pressedByFirst_b2w (n d : Nat) (k2 : Int32 → Int32 → am_I → am_L → Option (am_I × am_L)) (a2 : Int32) (a3 : Int32) (I : am_I) (L : am_L) : Option (am_I × am_L) :=
  if (75 : Int32) ≤ a3 then
    (some (I, L))
    else
    (am_ck a3 75 (am_lt (I 54 (a3).toNatClampNeg) (fun v1 => am_b3 (fJ9_max_7cf53 n d (0 : Int32) (v1 - a2) I L) (fun v2 I2 L2 => am_ck v2 21 (am_lt (I2 53 (v2).toNatClampNeg) (fun v3 => am_ck a3 75 (am_lt (am_up I2 56 (a3).toNatClampNeg v3) (fun I4 => am_lt (a3 + (1 : Int32)) (fun v5 => k2 a2 v5 I4 L2)))))))))

set_option maxRecDepth 100000 in
set_option maxHeartbeats 4000000 in
theorem tX0_findPressed_c51_pressedByFirst_b2w {x : am_X} {al : Bool} (n d : Nat) (hc : am_ok x cX0_findPressed yX0_findPressed 4 none (d + 2) 0 0) {I' : am_I} {L' : am_L} (k2 : Int32 → Int32 → am_I → am_L → Option (am_I × am_L)) (hk2 : ∀ (a2 : Int32) (a3 : Int32) (I : am_I) (L : am_L), k2 a2 a3 I L = some (I', L') → am_J x (fun S => S = (none, (KC al), (RC al), I', L')) 2 [some (.ref 51), some (.ref 56), some (.int a2), some (.int a3)] [] (KC al) (RC al) I L 0 0) (a2 : Int32) (a3 : Int32) (I : am_I) (L : am_L) (hf : fX0_findPressed_c51_pressedByFirst_b2w n d k2 a2 a3 I L = some (I', L')) : am_J x (fun S => S = (none, (KC al), (RC al), I', L')) 2 [some (.ref 51), some (.ref 56), some (.int a2), some (.int a3)] [] (KC al) (RC al) I L 0 0 := by
  unfold fX0_findPressed_c51_pressedByFirst_b2w at hf
  refine j_iload_n hc dX0_findPressed_2 rfl ?_
  refine j_bipush (v := (75 : Int32)) hc dX0_findPressed_3 cb_75 ?_
  refine j_icmp_ge (tgt := 34) hc dX0_findPressed_5 rfl hf (fun hf => ?_) (fun hf => ?_)
  · exact j_return hc dX0_findPressed_34 rfl rfl hf
  · refine j_aload_n hc dX0_findPressed_8 rfl ?_
    refine j_iload_n hc dX0_findPressed_9 rfl ?_
    refine j_aload_n hc dX0_findPressed_10 rfl ?_
    refine j_getR (u := 53) hc dX0_findPressed_11 (fgC_X0_17_51 _) (rC_51_1 _) ?_
    refine j_iconst (v := (0 : Int32)) hc dX0_findPressed_14 ci_0 ?_
    refine j_aload_n hc dX0_findPressed_15 rfl ?_
    refine j_getR (u := 54) hc dX0_findPressed_16 (fgC_X0_20_51 _) (rC_51_2 _) ?_
    refine j_iload_n hc dX0_findPressed_19 rfl ?_
    refine j_iaload (n := 75) hc dX0_findPressed_20 (kC_54 _) hf (fun v1 hf => ?_)
    refine j_iload_n hc dX0_findPressed_21 rfl ?_
    refine j_isub hc dX0_findPressed_22 ?_
    refine j_callSI (As := [.int (0 : Int32), .int (v1 - a2)]) hc dX0_findPressed_23 kw_1112 mJ9_max_7cf53  rfl (by omega) (Nat.le_of_ble_eq_true rfl) (Nat.le_of_ble_eq_true rfl) ⟨Nat.le_refl _, Nat.le_refl _⟩ hf (fun v I' L' h => qJ9_max_7cf53 x.2.1 n d (0 : Int32) (v1 - a2) I L v I' L' h) (fun v2 I2 L2 hf => ?_)
    refine j_iaload (n := 21) hc dX0_findPressed_26 (kC_53 _) hf (fun v3 hf => ?_)
    refine j_iastore (n := 75) hc dX0_findPressed_27 (kC_56 _) hf (fun I4 hf => ?_)
    refine j_iinc (w := (1 : Int32)) hc dX0_findPressed_28 rfl ci_1 (Nat.le_of_ble_eq_true rfl) hf (fun v5 hf => ?_)
    refine j_goto (tgt := 2) hc dX0_findPressed_31 rfl ?_
    exact j_sub (hk2 _ _ _ _ hf) (And.intro rfl (And.intro rfl (And.intro rfl (And.intro rfl (trivial)))))

def fX0_findPressed_c51_pressedByFirst_b2 (n d : Nat) : Nat → Int32 → Int32 → am_I → am_L → Option (am_I × am_L)
  | 0 => fun _ _ _ _ => none
  | m + 1 => fX0_findPressed_c51_pressedByFirst_b2w n d  (fX0_findPressed_c51_pressedByFirst_b2 n d m)

set_option maxRecDepth 100000 in
theorem tX0_findPressed_c51_pressedByFirst_b2 {x : am_X} {al : Bool} (n d : Nat) (hc : am_ok x cX0_findPressed yX0_findPressed 4 none (d + 2) 0 0) {I' : am_I} {L' : am_L} (m : Nat) : ∀ (a2 : Int32) (a3 : Int32) (I : am_I) (L : am_L) (hf : fX0_findPressed_c51_pressedByFirst_b2 n d m a2 a3 I L = some (I', L')), am_J x (fun S => S = (none, (KC al), (RC al), I', L')) 2 [some (.ref 51), some (.ref 56), some (.int a2), some (.int a3)] [] (KC al) (RC al) I L 0 0 := by
  induction m with
  | zero => intro a2 a3 I L hf; exact (Option.some_ne_none _ hf.symm).elim
  | succ m ih => intro a2 a3 I L hf; exact tX0_findPressed_c51_pressedByFirst_b2w n d hc (fX0_findPressed_c51_pressedByFirst_b2 n d m) ih a2 a3 I L hf

set_option maxRecDepth 100000 in
def fX0_findPressed_c51_pressedByFirst (n d : Nat) (a2 : Int32) (I : am_I) (L : am_L) : Option (am_I × am_L) :=
  am_lt (0 : Int32) (fun v1 => fX0_findPressed_c51_pressedByFirst_b2 n d n a2 v1 I L)

set_option maxRecDepth 100000 in
set_option maxHeartbeats 4000000 in
theorem tX0_findPressed_c51_pressedByFirst {x : am_X} {al : Bool} (n d : Nat) (hc : am_ok x cX0_findPressed yX0_findPressed 4 none (d + 2) 0 0) {I' : am_I} {L' : am_L} (a2 : Int32) (I : am_I) (L : am_L) (hf : fX0_findPressed_c51_pressedByFirst n d a2 I L = some (I', L')) : am_J x (fun S => S = (none, (KC al), (RC al), I', L')) 0 [some (.ref 51), some (.ref 56), some (.int a2), none] [] (KC al) (RC al) I L 0 0 := by
  unfold fX0_findPressed_c51_pressedByFirst at hf
  refine j_iconst (v := (0 : Int32)) hc dX0_findPressed_0 ci_0 ?_
  refine j_istore_n hc dX0_findPressed_1 (Nat.le_of_ble_eq_true rfl) hf (fun v1 hf => ?_)
  exact j_sub (tX0_findPressed_c51_pressedByFirst_b2 n d hc n _ _ _ _ hf) (And.intro rfl (And.intro rfl (And.intro rfl (And.intro rfl (trivial)))))

set_option maxRecDepth 100000 in
theorem qX0_findPressed_c51_pressedByFirst (l : Launch) {al : Bool} (n d : Nat) (a2 : Int32) (I : am_I) (L : am_L) (I' : am_I) (L' : am_L) (hf : fX0_findPressed_c51_pressedByFirst n d a2 I L = some (I', L')) : am_C l yX0_findPressed cX0_findPressed 4 none (d + 2) [.ref 51, .ref 56, .int a2] (KC al) (RC al) I L none I' L' := by
  exact am_intro (plainFor_of_name plX0) (fun _ _ => trivial) (Nat.le_of_ble_eq_true rfl) (fun x hl hc => by subst hl; exact j_sub (tX0_findPressed_c51_pressedByFirst n d hc _ _ _ hf) (And.intro rfl (And.intro rfl (And.intro rfl (trivial)))))
set_option maxRecDepth 100000 in
def fX0_findPressed_c51_pressedByOther_b2w (n d : Nat) (k2 : Int32 → Int32 → am_I → am_L → Option (am_I × am_L)) (a2 : Int32) (a3 : Int32) (I : am_I) (L : am_L) : Option (am_I × am_L) :=
  if (75 : Int32) ≤ a3 then
    (some (I, L))
    else
    (am_ck a3 75 (am_lt (I 54 (a3).toNatClampNeg) (fun v1 => am_b3 (fJ9_max_7cf53 n d (0 : Int32) (v1 - a2) I L) (fun v2 I2 L2 => am_ck v2 21 (am_lt (I2 53 (v2).toNatClampNeg) (fun v3 => am_ck a3 75 (am_lt (am_up I2 57 (a3).toNatClampNeg v3) (fun I4 => am_lt (a3 + (1 : Int32)) (fun v5 => k2 a2 v5 I4 L2)))))))))

set_option maxRecDepth 100000 in
set_option maxHeartbeats 4000000 in
theorem tX0_findPressed_c51_pressedByOther_b2w {x : am_X} {al : Bool} (n d : Nat) (hc : am_ok x cX0_findPressed yX0_findPressed 4 none (d + 2) 0 0) {I' : am_I} {L' : am_L} (k2 : Int32 → Int32 → am_I → am_L → Option (am_I × am_L)) (hk2 : ∀ (a2 : Int32) (a3 : Int32) (I : am_I) (L : am_L), k2 a2 a3 I L = some (I', L') → am_J x (fun S => S = (none, (KC al), (RC al), I', L')) 2 [some (.ref 51), some (.ref 57), some (.int a2), some (.int a3)] [] (KC al) (RC al) I L 0 0) (a2 : Int32) (a3 : Int32) (I : am_I) (L : am_L) (hf : fX0_findPressed_c51_pressedByOther_b2w n d k2 a2 a3 I L = some (I', L')) : am_J x (fun S => S = (none, (KC al), (RC al), I', L')) 2 [some (.ref 51), some (.ref 57), some (.int a2), some (.int a3)] [] (KC al) (RC al) I L 0 0 := by
  unfold fX0_findPressed_c51_pressedByOther_b2w at hf
  refine j_iload_n hc dX0_findPressed_2 rfl ?_
  refine j_bipush (v := (75 : Int32)) hc dX0_findPressed_3 cb_75 ?_
  refine j_icmp_ge (tgt := 34) hc dX0_findPressed_5 rfl hf (fun hf => ?_) (fun hf => ?_)
  · exact j_return hc dX0_findPressed_34 rfl rfl hf
  · refine j_aload_n hc dX0_findPressed_8 rfl ?_
    refine j_iload_n hc dX0_findPressed_9 rfl ?_
    refine j_aload_n hc dX0_findPressed_10 rfl ?_
    refine j_getR (u := 53) hc dX0_findPressed_11 (fgC_X0_17_51 _) (rC_51_1 _) ?_
    refine j_iconst (v := (0 : Int32)) hc dX0_findPressed_14 ci_0 ?_
    refine j_aload_n hc dX0_findPressed_15 rfl ?_
    refine j_getR (u := 54) hc dX0_findPressed_16 (fgC_X0_20_51 _) (rC_51_2 _) ?_
    refine j_iload_n hc dX0_findPressed_19 rfl ?_
    refine j_iaload (n := 75) hc dX0_findPressed_20 (kC_54 _) hf (fun v1 hf => ?_)
    refine j_iload_n hc dX0_findPressed_21 rfl ?_
    refine j_isub hc dX0_findPressed_22 ?_
    refine j_callSI (As := [.int (0 : Int32), .int (v1 - a2)]) hc dX0_findPressed_23 kw_1112 mJ9_max_7cf53  rfl (by omega) (Nat.le_of_ble_eq_true rfl) (Nat.le_of_ble_eq_true rfl) ⟨Nat.le_refl _, Nat.le_refl _⟩ hf (fun v I' L' h => qJ9_max_7cf53 x.2.1 n d (0 : Int32) (v1 - a2) I L v I' L' h) (fun v2 I2 L2 hf => ?_)
    refine j_iaload (n := 21) hc dX0_findPressed_26 (kC_53 _) hf (fun v3 hf => ?_)
    refine j_iastore (n := 75) hc dX0_findPressed_27 (kC_57 _) hf (fun I4 hf => ?_)
    refine j_iinc (w := (1 : Int32)) hc dX0_findPressed_28 rfl ci_1 (Nat.le_of_ble_eq_true rfl) hf (fun v5 hf => ?_)
    refine j_goto (tgt := 2) hc dX0_findPressed_31 rfl ?_
    exact j_sub (hk2 _ _ _ _ hf) (And.intro rfl (And.intro rfl (And.intro rfl (And.intro rfl (trivial)))))

def fX0_findPressed_c51_pressedByOther_b2 (n d : Nat) : Nat → Int32 → Int32 → am_I → am_L → Option (am_I × am_L)
  | 0 => fun _ _ _ _ => none
  | m + 1 => fX0_findPressed_c51_pressedByOther_b2w n d  (fX0_findPressed_c51_pressedByOther_b2 n d m)

set_option maxRecDepth 100000 in
theorem tX0_findPressed_c51_pressedByOther_b2 {x : am_X} {al : Bool} (n d : Nat) (hc : am_ok x cX0_findPressed yX0_findPressed 4 none (d + 2) 0 0) {I' : am_I} {L' : am_L} (m : Nat) : ∀ (a2 : Int32) (a3 : Int32) (I : am_I) (L : am_L) (hf : fX0_findPressed_c51_pressedByOther_b2 n d m a2 a3 I L = some (I', L')), am_J x (fun S => S = (none, (KC al), (RC al), I', L')) 2 [some (.ref 51), some (.ref 57), some (.int a2), some (.int a3)] [] (KC al) (RC al) I L 0 0 := by
  induction m with
  | zero => intro a2 a3 I L hf; exact (Option.some_ne_none _ hf.symm).elim
  | succ m ih => intro a2 a3 I L hf; exact tX0_findPressed_c51_pressedByOther_b2w n d hc (fX0_findPressed_c51_pressedByOther_b2 n d m) ih a2 a3 I L hf

set_option maxRecDepth 100000 in
def fX0_findPressed_c51_pressedByOther (n d : Nat) (a2 : Int32) (I : am_I) (L : am_L) : Option (am_I × am_L) :=
  am_lt (0 : Int32) (fun v1 => fX0_findPressed_c51_pressedByOther_b2 n d n a2 v1 I L)

set_option maxRecDepth 100000 in
set_option maxHeartbeats 4000000 in
theorem tX0_findPressed_c51_pressedByOther {x : am_X} {al : Bool} (n d : Nat) (hc : am_ok x cX0_findPressed yX0_findPressed 4 none (d + 2) 0 0) {I' : am_I} {L' : am_L} (a2 : Int32) (I : am_I) (L : am_L) (hf : fX0_findPressed_c51_pressedByOther n d a2 I L = some (I', L')) : am_J x (fun S => S = (none, (KC al), (RC al), I', L')) 0 [some (.ref 51), some (.ref 57), some (.int a2), none] [] (KC al) (RC al) I L 0 0 := by
  unfold fX0_findPressed_c51_pressedByOther at hf
  refine j_iconst (v := (0 : Int32)) hc dX0_findPressed_0 ci_0 ?_
  refine j_istore_n hc dX0_findPressed_1 (Nat.le_of_ble_eq_true rfl) hf (fun v1 hf => ?_)
  exact j_sub (tX0_findPressed_c51_pressedByOther_b2 n d hc n _ _ _ _ hf) (And.intro rfl (And.intro rfl (And.intro rfl (And.intro rfl (trivial)))))

set_option maxRecDepth 100000 in
theorem qX0_findPressed_c51_pressedByOther (l : Launch) {al : Bool} (n d : Nat) (a2 : Int32) (I : am_I) (L : am_L) (I' : am_I) (L' : am_L) (hf : fX0_findPressed_c51_pressedByOther n d a2 I L = some (I', L')) : am_C l yX0_findPressed cX0_findPressed 4 none (d + 2) [.ref 51, .ref 57, .int a2] (KC al) (RC al) I L none I' L' := by
  exact am_intro (plainFor_of_name plX0) (fun _ _ => trivial) (Nat.le_of_ble_eq_true rfl) (fun x hl hc => by subst hl; exact j_sub (tX0_findPressed_c51_pressedByOther n d hc _ _ _ hf) (And.intro rfl (And.intro rfl (And.intro rfl (trivial)))))
set_option maxRecDepth 100000 in
def fX0_answered (n d : Nat) (a0 : Int32) (I : am_I) (L : am_L) : Option (Int32 × am_I × am_L) :=
  am_lt (a0 >>> ((2 : Int32) &&& 31)) (fun v1 => if v1 ≤ 0 then
    (some (((-1 : Int32) - v1), I, L))
    else
    (some (((1 : Int32) - v1), I, L)))

set_option maxRecDepth 100000 in
set_option maxHeartbeats 4000000 in
theorem tX0_answered {x : am_X} {al : Bool} (n d : Nat) (hc : am_ok x cX0_answered yX0_answered 2 (some .int) (d + 1) 0 0) {r : Int32} {I' : am_I} {L' : am_L} (a0 : Int32) (I : am_I) (L : am_L) (hf : fX0_answered n d a0 I L = some (r, I', L')) : am_J x (fun S => S = (some (.int r), (KC al), (RC al), I', L')) 0 [some (.int a0), none] [] (KC al) (RC al) I L 0 0 := by
  unfold fX0_answered at hf
  refine j_iload_n hc dX0_answered_0 rfl ?_
  refine j_iconst (v := (2 : Int32)) hc dX0_answered_1 ci_2 ?_
  refine j_ishr hc dX0_answered_2 ?_
  refine j_istore_n hc dX0_answered_3 (Nat.le_of_ble_eq_true rfl) hf (fun v1 hf => ?_)
  refine j_iload_n hc dX0_answered_4 rfl ?_
  refine j_if_le (tgt := 14) hc dX0_answered_5 rfl hf (fun hf => ?_) (fun hf => ?_)
  · refine j_iconst (v := (-1 : Int32)) hc dX0_answered_14 ci_m1 ?_
    refine j_iload_n hc dX0_answered_15 rfl ?_
    refine j_isub hc dX0_answered_16 ?_
    exact j_ireturn hc dX0_answered_17 rfl rfl hf
  · refine j_iconst (v := (1 : Int32)) hc dX0_answered_8 ci_1 ?_
    refine j_iload_n hc dX0_answered_9 rfl ?_
    refine j_isub hc dX0_answered_10 ?_
    refine j_goto (tgt := 17) hc dX0_answered_11 rfl ?_
    exact j_ireturn hc dX0_answered_17 rfl rfl hf

set_option maxRecDepth 100000 in
theorem qX0_answered (l : Launch) {al : Bool} (n d : Nat) (a0 : Int32) (I : am_I) (L : am_L) (r : Int32) (I' : am_I) (L' : am_L) (hf : fX0_answered n d a0 I L = some (r, I', L')) : am_C l yX0_answered cX0_answered 2 (some .int) (d + 1) [.int a0] (KC al) (RC al) I L (some (.int r)) I' L' := by
  exact am_intro (plainFor_of_name plX0) (fun _ _ => trivial) (Nat.le_of_ble_eq_true rfl) (fun x hl hc => by subst hl; exact j_sub (tX0_answered n d hc _ _ _ hf) (And.intro rfl (trivial)))
set_option maxRecDepth 100000 in
def fX0_best_otherInTurn_t_b100 (n d : Nat) (s0 : Int32) (a6 : Int32) (a8 : Int32) (I : am_I) (L : am_L) : Option (Int32 × am_I × am_L) :=
  am_lt s0 (fun v1 => am_b3 (fJ9_max_7cf53 n d ((((4 : Int32) * a8) + (2 : Int32)) - (1 : Int32)) ((4 : Int32) * v1) I L) (fun v2 I2 L2 => am_b3 (fJ9_max_7cf53 n d a6 v2 I2 L2) (fun v3 I3 L3 => am_lt v3 (fun v4 => some (v4, I3, L3)))))

set_option maxRecDepth 100000 in
set_option maxHeartbeats 4000000 in
theorem tX0_best_otherInTurn_t_b100 {x : am_X} (n d : Nat) (hc : am_ok x cX0_best yX0_best 10 (some .int) (d + 2) 0 0) {r : Int32} {I' : am_I} {L' : am_L} (s0 : Int32) (a6 : Int32) (a8 : Int32) (I : am_I) (L : am_L) (hf : fX0_best_otherInTurn_t_b100 n d s0 a6 a8 I L = some (r, I', L')) : am_J x (fun S => S = (some (.int r), (KC true), (RC true), I', L')) 100 [none, none, none, none, none, none, some (.int a6), none, some (.int a8), none] [.int s0] (KC true) (RC true) I L 0 0 := by
  unfold fX0_best_otherInTurn_t_b100 at hf
  refine j_istore hc dX0_best_100 (Nat.le_of_ble_eq_true rfl) hf (fun v1 hf => ?_)
  refine j_iload hc dX0_best_102 rfl ?_
  refine j_iconst (v := (4 : Int32)) hc dX0_best_104 ci_4 ?_
  refine j_iload hc dX0_best_105 rfl ?_
  refine j_imul hc dX0_best_107 ?_
  refine j_iconst (v := (2 : Int32)) hc dX0_best_108 ci_2 ?_
  refine j_iadd hc dX0_best_109 ?_
  refine j_iconst (v := (1 : Int32)) hc dX0_best_110 ci_1 ?_
  refine j_isub hc dX0_best_111 ?_
  refine j_iconst (v := (4 : Int32)) hc dX0_best_112 ci_4 ?_
  refine j_iload hc dX0_best_113 rfl ?_
  refine j_imul hc dX0_best_115 ?_
  refine j_callSI (As := [.int ((((4 : Int32) * a8) + (2 : Int32)) - (1 : Int32)), .int ((4 : Int32) * v1)]) hc dX0_best_116 kw_1112 mJ9_max_7cf53  rfl (by omega) (Nat.le_of_ble_eq_true rfl) (Nat.le_of_ble_eq_true rfl) ⟨Nat.le_refl _, Nat.le_refl _⟩ hf (fun v I' L' h => qJ9_max_7cf53 x.2.1 n d ((((4 : Int32) * a8) + (2 : Int32)) - (1 : Int32)) ((4 : Int32) * v1) I L v I' L' h) (fun v2 I2 L2 hf => ?_)
  refine j_callSI (As := [.int a6, .int v2]) hc dX0_best_119 kw_1112 mJ9_max_7cf53  rfl (by omega) (Nat.le_of_ble_eq_true rfl) (Nat.le_of_ble_eq_true rfl) ⟨Nat.le_refl _, Nat.le_refl _⟩ hf (fun v I' L' h => qJ9_max_7cf53 x.2.1 n d a6 v2 I2 L2 v I' L' h) (fun v3 I3 L3 hf => ?_)
  refine j_istore hc dX0_best_122 (Nat.le_of_ble_eq_true rfl) hf (fun v4 hf => ?_)
  refine j_iload hc dX0_best_124 rfl ?_
  exact j_ireturn hc dX0_best_126 rfl rfl hf

set_option maxRecDepth 100000 in
def fX0_best_otherInTurn_t_b53 (n d : Nat) (s0 : Int32) (a1 : Int32) (a2 : Int32) (a3 : Int32) (a6 : Int32) (I : am_I) (L : am_L) : Option (Int32 × am_I × am_L) :=
  am_lt s0 (fun v1 => if v1 = 0 then
    (some (a6, I, L))
    else
    (am_ck (((a2 * (75 : Int32)) + a1) - (1 : Int32)) 5625 (am_lt (I 68 ((((a2 * (75 : Int32)) + a1) - (1 : Int32))).toNatClampNeg) (fun v2 => am_b3 (fX0_answered n d v2 I L) (fun v3 I3 L3 => am_lt v3 (fun v4 => if a3 = 0 then
      (fX0_best_otherInTurn_t_b100 n d (999 : Int32) a6 v4 I3 L3)
      else
      (am_ck (((a3 * (75 : Int32)) + a1) - (1 : Int32)) 5625 (am_lt (I3 68 ((((a3 * (75 : Int32)) + a1) - (1 : Int32))).toNatClampNeg) (fun v5 => am_b3 (fX0_answered n d v5 I3 L3) (fun v6 I6 L6 => fX0_best_otherInTurn_t_b100 n d v6 a6 v4 I6 L6))))))))))

set_option maxRecDepth 100000 in
set_option maxHeartbeats 4000000 in
theorem tX0_best_otherInTurn_t_b53 {x : am_X} (n d : Nat) (hc : am_ok x cX0_best yX0_best 10 (some .int) (d + 2) 0 0) {r : Int32} {I' : am_I} {L' : am_L} (s0 : Int32) (a1 : Int32) (a2 : Int32) (a3 : Int32) (a6 : Int32) (I : am_I) (L : am_L) (hf : fX0_best_otherInTurn_t_b53 n d s0 a1 a2 a3 a6 I L = some (r, I', L')) : am_J x (fun S => S = (some (.int r), (KC true), (RC true), I', L')) 53 [none, some (.int a1), some (.int a2), some (.int a3), some (.ref 68), none, some (.int a6), none, none, none] [.int s0] (KC true) (RC true) I L 0 0 := by
  unfold fX0_best_otherInTurn_t_b53 at hf
  refine j_istore hc dX0_best_53 (Nat.le_of_ble_eq_true rfl) hf (fun v1 hf => ?_)
  refine j_iload hc dX0_best_55 rfl ?_
  refine j_if_eq (tgt := 124) hc dX0_best_57 rfl hf (fun hf => ?_) (fun hf => ?_)
  · refine j_iload hc dX0_best_124 rfl ?_
    exact j_ireturn hc dX0_best_126 rfl rfl hf
  · refine j_aload hc dX0_best_60 rfl ?_
    refine j_iload_n hc dX0_best_62 rfl ?_
    refine j_bipush (v := (75 : Int32)) hc dX0_best_63 cb_75 ?_
    refine j_imul hc dX0_best_65 ?_
    refine j_iload_n hc dX0_best_66 rfl ?_
    refine j_iadd hc dX0_best_67 ?_
    refine j_iconst (v := (1 : Int32)) hc dX0_best_68 ci_1 ?_
    refine j_isub hc dX0_best_69 ?_
    refine j_iaload (n := 5625) hc dX0_best_70 kC_68 hf (fun v2 hf => ?_)
    refine j_callSI (As := [.int v2]) hc dX0_best_71 kw_1121 mX0_answered  rfl (by omega) (Nat.le_of_ble_eq_true rfl) (Nat.le_of_ble_eq_true rfl) ⟨Nat.le_refl _, Nat.le_refl _⟩ hf (fun v I' L' h => qX0_answered x.2.1 n d v2 I L v I' L' h) (fun v3 I3 L3 hf => ?_)
    refine j_istore hc dX0_best_74 (Nat.le_of_ble_eq_true rfl) hf (fun v4 hf => ?_)
    refine j_iload_n hc dX0_best_76 rfl ?_
    refine j_if_ne (tgt := 86) hc dX0_best_77 rfl hf (fun hf => ?_) (fun hf => ?_)
    · refine j_aload hc dX0_best_86 rfl ?_
      refine j_iload_n hc dX0_best_88 rfl ?_
      refine j_bipush (v := (75 : Int32)) hc dX0_best_89 cb_75 ?_
      refine j_imul hc dX0_best_91 ?_
      refine j_iload_n hc dX0_best_92 rfl ?_
      refine j_iadd hc dX0_best_93 ?_
      refine j_iconst (v := (1 : Int32)) hc dX0_best_94 ci_1 ?_
      refine j_isub hc dX0_best_95 ?_
      refine j_iaload (n := 5625) hc dX0_best_96 kC_68 hf (fun v5 hf => ?_)
      refine j_callSI (As := [.int v5]) hc dX0_best_97 kw_1121 mX0_answered  rfl (by omega) (Nat.le_of_ble_eq_true rfl) (Nat.le_of_ble_eq_true rfl) ⟨Nat.le_refl _, Nat.le_refl _⟩ hf (fun v I' L' h => qX0_answered x.2.1 n d v5 I3 L3 v I' L' h) (fun v6 I6 L6 hf => ?_)
      exact j_sub (tX0_best_otherInTurn_t_b100 n d hc _ _ _ _ _ hf) (And.intro rfl (And.intro rfl (trivial)))
    · refine j_sipush (v := (999 : Int32)) hc dX0_best_80 cs_999 ?_
      refine j_goto (tgt := 100) hc dX0_best_83 rfl ?_
      exact j_sub (tX0_best_otherInTurn_t_b100 n d hc _ _ _ _ _ hf) (And.intro rfl (And.intro rfl (trivial)))

set_option maxRecDepth 100000 in
def fX0_best_otherInTurn_t_b33 (n d : Nat) (s0 : Int32) (s1 : Int32) (a1 : Int32) (a2 : Int32) (a3 : Int32) (a5 : Int32) (I : am_I) (L : am_L) : Option (Int32 × am_I × am_L) :=
  am_lt (((s0 * s1) + (2 : Int32)) - (0 : Int32)) (fun v1 => if (a1 - (1 : Int32)) ≤ a5 then
    (fX0_best_otherInTurn_t_b53 n d (0 : Int32) a1 a2 a3 v1 I L)
    else
    (fX0_best_otherInTurn_t_b53 n d (1 : Int32) a1 a2 a3 v1 I L))

set_option maxRecDepth 100000 in
set_option maxHeartbeats 4000000 in
theorem tX0_best_otherInTurn_t_b33 {x : am_X} (n d : Nat) (hc : am_ok x cX0_best yX0_best 10 (some .int) (d + 2) 0 0) {r : Int32} {I' : am_I} {L' : am_L} (s0 : Int32) (s1 : Int32) (a1 : Int32) (a2 : Int32) (a3 : Int32) (a5 : Int32) (I : am_I) (L : am_L) (hf : fX0_best_otherInTurn_t_b33 n d s0 s1 a1 a2 a3 a5 I L = some (r, I', L')) : am_J x (fun S => S = (some (.int r), (KC true), (RC true), I', L')) 33 [none, some (.int a1), some (.int a2), some (.int a3), some (.ref 68), some (.int a5), none, none, none, none] [.int s1, .int s0] (KC true) (RC true) I L 0 0 := by
  unfold fX0_best_otherInTurn_t_b33 at hf
  refine j_imul hc dX0_best_33 ?_
  refine j_iconst (v := (2 : Int32)) hc dX0_best_34 ci_2 ?_
  refine j_iadd hc dX0_best_35 ?_
  refine j_iconst (v := (0 : Int32)) hc dX0_best_36 ci_0 ?_
  refine j_isub hc dX0_best_37 ?_
  refine j_istore hc dX0_best_38 (Nat.le_of_ble_eq_true rfl) hf (fun v1 hf => ?_)
  refine j_iload_n hc dX0_best_40 rfl ?_
  refine j_iconst (v := (1 : Int32)) hc dX0_best_41 ci_1 ?_
  refine j_isub hc dX0_best_42 ?_
  refine j_iload hc dX0_best_43 rfl ?_
  refine j_icmp_le (tgt := 52) hc dX0_best_45 rfl hf (fun hf => ?_) (fun hf => ?_)
  · refine j_iconst (v := (0 : Int32)) hc dX0_best_52 ci_0 ?_
    exact j_sub (tX0_best_otherInTurn_t_b53 n d hc _ _ _ _ _ _ _ hf) (And.intro rfl (And.intro rfl (And.intro rfl (And.intro rfl (And.intro rfl (trivial))))))
  · refine j_iconst (v := (1 : Int32)) hc dX0_best_48 ci_1 ?_
    refine j_goto (tgt := 53) hc dX0_best_49 rfl ?_
    exact j_sub (tX0_best_otherInTurn_t_b53 n d hc _ _ _ _ _ _ _ hf) (And.intro rfl (And.intro rfl (And.intro rfl (And.intro rfl (And.intro rfl (trivial))))))

set_option maxRecDepth 100000 in
def fX0_best_otherInTurn_t (n d : Nat) (a1 : Int32) (a2 : Int32) (a3 : Int32) (I : am_I) (L : am_L) : Option (Int32 × am_I × am_L) :=
  am_ck a1 75 (am_lt (I 55 (a1).toNatClampNeg) (fun v1 => am_lt v1 (fun v2 => if v2 = 0 then
    (fX0_best_otherInTurn_t_b33 n d (4 : Int32) (-999 : Int32) a1 a2 a3 v2 I L)
    else
    (am_ck ((a2 * (75 : Int32)) + v2) 5625 (am_lt (I 68 (((a2 * (75 : Int32)) + v2)).toNatClampNeg) (fun v3 => am_b3 (fX0_answered n d v3 I L) (fun v4 I4 L4 => fX0_best_otherInTurn_t_b33 n d (4 : Int32) v4 a1 a2 a3 v2 I4 L4)))))))

set_option maxRecDepth 100000 in
set_option maxHeartbeats 4000000 in
theorem tX0_best_otherInTurn_t {x : am_X} (n d : Nat) (hc : am_ok x cX0_best yX0_best 10 (some .int) (d + 2) 0 0) {r : Int32} {I' : am_I} {L' : am_L} (a1 : Int32) (a2 : Int32) (a3 : Int32) (I : am_I) (L : am_L) (hf : fX0_best_otherInTurn_t n d a1 a2 a3 I L = some (r, I', L')) : am_J x (fun S => S = (some (.int r), (KC true), (RC true), I', L')) 0 [some (.ref 51), some (.int a1), some (.int a2), some (.int a3), some (.ref 68), none, none, none, none, none] [] (KC true) (RC true) I L 0 0 := by
  unfold fX0_best_otherInTurn_t at hf
  refine j_aload_n hc dX0_best_0 rfl ?_
  refine j_getR (u := 55) hc dX0_best_1 (fgC_X0_23_51 _) (rC_51_3 _) ?_
  refine j_iload_n hc dX0_best_4 rfl ?_
  refine j_iaload (n := 75) hc dX0_best_5 (kC_55 _) hf (fun v1 hf => ?_)
  refine j_istore hc dX0_best_6 (Nat.le_of_ble_eq_true rfl) hf (fun v2 hf => ?_)
  refine j_iconst (v := (4 : Int32)) hc dX0_best_8 ci_4 ?_
  refine j_iload hc dX0_best_9 rfl ?_
  refine j_if_ne (tgt := 20) hc dX0_best_11 rfl hf (fun hf => ?_) (fun hf => ?_)
  · refine j_aload hc dX0_best_20 rfl ?_
    refine j_iload_n hc dX0_best_22 rfl ?_
    refine j_bipush (v := (75 : Int32)) hc dX0_best_23 cb_75 ?_
    refine j_imul hc dX0_best_25 ?_
    refine j_iload hc dX0_best_26 rfl ?_
    refine j_iadd hc dX0_best_28 ?_
    refine j_iaload (n := 5625) hc dX0_best_29 kC_68 hf (fun v3 hf => ?_)
    refine j_callSI (As := [.int v3]) hc dX0_best_30 kw_1121 mX0_answered  rfl (by omega) (Nat.le_of_ble_eq_true rfl) (Nat.le_of_ble_eq_true rfl) ⟨Nat.le_refl _, Nat.le_refl _⟩ hf (fun v I' L' h => qX0_answered x.2.1 n d v3 I L v I' L' h) (fun v4 I4 L4 hf => ?_)
    exact j_sub (tX0_best_otherInTurn_t_b33 n d hc _ _ _ _ _ _ _ _ hf) (And.intro rfl (And.intro rfl (And.intro rfl (And.intro rfl (And.intro rfl (trivial))))))
  · refine j_sipush (v := (-999 : Int32)) hc dX0_best_14 cs_m999 ?_
    refine j_goto (tgt := 33) hc dX0_best_17 rfl ?_
    exact j_sub (tX0_best_otherInTurn_t_b33 n d hc _ _ _ _ _ _ _ _ hf) (And.intro rfl (And.intro rfl (And.intro rfl (And.intro rfl (And.intro rfl (trivial))))))

set_option maxRecDepth 100000 in
theorem qX0_best_otherInTurn_t (l : Launch) (n d : Nat) (a1 : Int32) (a2 : Int32) (a3 : Int32) (I : am_I) (L : am_L) (r : Int32) (I' : am_I) (L' : am_L) (hf : fX0_best_otherInTurn_t n d a1 a2 a3 I L = some (r, I', L')) : am_C l yX0_best cX0_best 10 (some .int) (d + 2) [.ref 51, .int a1, .int a2, .int a3, .ref 68] (KC true) (RC true) I L (some (.int r)) I' L' := by
  exact am_intro (plainFor_of_name plX0) (fun _ _ => trivial) (Nat.le_of_ble_eq_true rfl) (fun x hl hc => by subst hl; exact j_sub (tX0_best_otherInTurn_t n d hc _ _ _ _ _ hf) (And.intro rfl (And.intro rfl (And.intro rfl (And.intro rfl (And.intro rfl (trivial)))))))
set_option maxRecDepth 100000 in
def fX0_best_firstInTurn_t_b100 (n d : Nat) (s0 : Int32) (a6 : Int32) (a8 : Int32) (I : am_I) (L : am_L) : Option (Int32 × am_I × am_L) :=
  am_lt s0 (fun v1 => am_b3 (fJ9_max_7cf53 n d ((((4 : Int32) * a8) + (2 : Int32)) - (1 : Int32)) ((4 : Int32) * v1) I L) (fun v2 I2 L2 => am_b3 (fJ9_max_7cf53 n d a6 v2 I2 L2) (fun v3 I3 L3 => am_lt v3 (fun v4 => some (v4, I3, L3)))))

set_option maxRecDepth 100000 in
set_option maxHeartbeats 4000000 in
theorem tX0_best_firstInTurn_t_b100 {x : am_X} (n d : Nat) (hc : am_ok x cX0_best yX0_best 10 (some .int) (d + 2) 0 0) {r : Int32} {I' : am_I} {L' : am_L} (s0 : Int32) (a6 : Int32) (a8 : Int32) (I : am_I) (L : am_L) (hf : fX0_best_firstInTurn_t_b100 n d s0 a6 a8 I L = some (r, I', L')) : am_J x (fun S => S = (some (.int r), (KC true), (RC true), I', L')) 100 [none, none, none, none, none, none, some (.int a6), none, some (.int a8), none] [.int s0] (KC true) (RC true) I L 0 0 := by
  unfold fX0_best_firstInTurn_t_b100 at hf
  refine j_istore hc dX0_best_100 (Nat.le_of_ble_eq_true rfl) hf (fun v1 hf => ?_)
  refine j_iload hc dX0_best_102 rfl ?_
  refine j_iconst (v := (4 : Int32)) hc dX0_best_104 ci_4 ?_
  refine j_iload hc dX0_best_105 rfl ?_
  refine j_imul hc dX0_best_107 ?_
  refine j_iconst (v := (2 : Int32)) hc dX0_best_108 ci_2 ?_
  refine j_iadd hc dX0_best_109 ?_
  refine j_iconst (v := (1 : Int32)) hc dX0_best_110 ci_1 ?_
  refine j_isub hc dX0_best_111 ?_
  refine j_iconst (v := (4 : Int32)) hc dX0_best_112 ci_4 ?_
  refine j_iload hc dX0_best_113 rfl ?_
  refine j_imul hc dX0_best_115 ?_
  refine j_callSI (As := [.int ((((4 : Int32) * a8) + (2 : Int32)) - (1 : Int32)), .int ((4 : Int32) * v1)]) hc dX0_best_116 kw_1112 mJ9_max_7cf53  rfl (by omega) (Nat.le_of_ble_eq_true rfl) (Nat.le_of_ble_eq_true rfl) ⟨Nat.le_refl _, Nat.le_refl _⟩ hf (fun v I' L' h => qJ9_max_7cf53 x.2.1 n d ((((4 : Int32) * a8) + (2 : Int32)) - (1 : Int32)) ((4 : Int32) * v1) I L v I' L' h) (fun v2 I2 L2 hf => ?_)
  refine j_callSI (As := [.int a6, .int v2]) hc dX0_best_119 kw_1112 mJ9_max_7cf53  rfl (by omega) (Nat.le_of_ble_eq_true rfl) (Nat.le_of_ble_eq_true rfl) ⟨Nat.le_refl _, Nat.le_refl _⟩ hf (fun v I' L' h => qJ9_max_7cf53 x.2.1 n d a6 v2 I2 L2 v I' L' h) (fun v3 I3 L3 hf => ?_)
  refine j_istore hc dX0_best_122 (Nat.le_of_ble_eq_true rfl) hf (fun v4 hf => ?_)
  refine j_iload hc dX0_best_124 rfl ?_
  exact j_ireturn hc dX0_best_126 rfl rfl hf

set_option maxRecDepth 100000 in
def fX0_best_firstInTurn_t_b53 (n d : Nat) (s0 : Int32) (a1 : Int32) (a2 : Int32) (a3 : Int32) (a6 : Int32) (I : am_I) (L : am_L) : Option (Int32 × am_I × am_L) :=
  am_lt s0 (fun v1 => if v1 = 0 then
    (some (a6, I, L))
    else
    (am_ck (((a2 * (75 : Int32)) + a1) - (1 : Int32)) 5625 (am_lt (I 67 ((((a2 * (75 : Int32)) + a1) - (1 : Int32))).toNatClampNeg) (fun v2 => am_b3 (fX0_answered n d v2 I L) (fun v3 I3 L3 => am_lt v3 (fun v4 => if a3 = 0 then
      (fX0_best_firstInTurn_t_b100 n d (999 : Int32) a6 v4 I3 L3)
      else
      (am_ck (((a3 * (75 : Int32)) + a1) - (1 : Int32)) 5625 (am_lt (I3 67 ((((a3 * (75 : Int32)) + a1) - (1 : Int32))).toNatClampNeg) (fun v5 => am_b3 (fX0_answered n d v5 I3 L3) (fun v6 I6 L6 => fX0_best_firstInTurn_t_b100 n d v6 a6 v4 I6 L6))))))))))

set_option maxRecDepth 100000 in
set_option maxHeartbeats 4000000 in
theorem tX0_best_firstInTurn_t_b53 {x : am_X} (n d : Nat) (hc : am_ok x cX0_best yX0_best 10 (some .int) (d + 2) 0 0) {r : Int32} {I' : am_I} {L' : am_L} (s0 : Int32) (a1 : Int32) (a2 : Int32) (a3 : Int32) (a6 : Int32) (I : am_I) (L : am_L) (hf : fX0_best_firstInTurn_t_b53 n d s0 a1 a2 a3 a6 I L = some (r, I', L')) : am_J x (fun S => S = (some (.int r), (KC true), (RC true), I', L')) 53 [none, some (.int a1), some (.int a2), some (.int a3), some (.ref 67), none, some (.int a6), none, none, none] [.int s0] (KC true) (RC true) I L 0 0 := by
  unfold fX0_best_firstInTurn_t_b53 at hf
  refine j_istore hc dX0_best_53 (Nat.le_of_ble_eq_true rfl) hf (fun v1 hf => ?_)
  refine j_iload hc dX0_best_55 rfl ?_
  refine j_if_eq (tgt := 124) hc dX0_best_57 rfl hf (fun hf => ?_) (fun hf => ?_)
  · refine j_iload hc dX0_best_124 rfl ?_
    exact j_ireturn hc dX0_best_126 rfl rfl hf
  · refine j_aload hc dX0_best_60 rfl ?_
    refine j_iload_n hc dX0_best_62 rfl ?_
    refine j_bipush (v := (75 : Int32)) hc dX0_best_63 cb_75 ?_
    refine j_imul hc dX0_best_65 ?_
    refine j_iload_n hc dX0_best_66 rfl ?_
    refine j_iadd hc dX0_best_67 ?_
    refine j_iconst (v := (1 : Int32)) hc dX0_best_68 ci_1 ?_
    refine j_isub hc dX0_best_69 ?_
    refine j_iaload (n := 5625) hc dX0_best_70 kC_67 hf (fun v2 hf => ?_)
    refine j_callSI (As := [.int v2]) hc dX0_best_71 kw_1121 mX0_answered  rfl (by omega) (Nat.le_of_ble_eq_true rfl) (Nat.le_of_ble_eq_true rfl) ⟨Nat.le_refl _, Nat.le_refl _⟩ hf (fun v I' L' h => qX0_answered x.2.1 n d v2 I L v I' L' h) (fun v3 I3 L3 hf => ?_)
    refine j_istore hc dX0_best_74 (Nat.le_of_ble_eq_true rfl) hf (fun v4 hf => ?_)
    refine j_iload_n hc dX0_best_76 rfl ?_
    refine j_if_ne (tgt := 86) hc dX0_best_77 rfl hf (fun hf => ?_) (fun hf => ?_)
    · refine j_aload hc dX0_best_86 rfl ?_
      refine j_iload_n hc dX0_best_88 rfl ?_
      refine j_bipush (v := (75 : Int32)) hc dX0_best_89 cb_75 ?_
      refine j_imul hc dX0_best_91 ?_
      refine j_iload_n hc dX0_best_92 rfl ?_
      refine j_iadd hc dX0_best_93 ?_
      refine j_iconst (v := (1 : Int32)) hc dX0_best_94 ci_1 ?_
      refine j_isub hc dX0_best_95 ?_
      refine j_iaload (n := 5625) hc dX0_best_96 kC_67 hf (fun v5 hf => ?_)
      refine j_callSI (As := [.int v5]) hc dX0_best_97 kw_1121 mX0_answered  rfl (by omega) (Nat.le_of_ble_eq_true rfl) (Nat.le_of_ble_eq_true rfl) ⟨Nat.le_refl _, Nat.le_refl _⟩ hf (fun v I' L' h => qX0_answered x.2.1 n d v5 I3 L3 v I' L' h) (fun v6 I6 L6 hf => ?_)
      exact j_sub (tX0_best_firstInTurn_t_b100 n d hc _ _ _ _ _ hf) (And.intro rfl (And.intro rfl (trivial)))
    · refine j_sipush (v := (999 : Int32)) hc dX0_best_80 cs_999 ?_
      refine j_goto (tgt := 100) hc dX0_best_83 rfl ?_
      exact j_sub (tX0_best_firstInTurn_t_b100 n d hc _ _ _ _ _ hf) (And.intro rfl (And.intro rfl (trivial)))

set_option maxRecDepth 100000 in
def fX0_best_firstInTurn_t_b33 (n d : Nat) (s0 : Int32) (s1 : Int32) (a1 : Int32) (a2 : Int32) (a3 : Int32) (a5 : Int32) (I : am_I) (L : am_L) : Option (Int32 × am_I × am_L) :=
  am_lt (((s0 * s1) + (2 : Int32)) - (0 : Int32)) (fun v1 => if (a1 - (1 : Int32)) ≤ a5 then
    (fX0_best_firstInTurn_t_b53 n d (0 : Int32) a1 a2 a3 v1 I L)
    else
    (fX0_best_firstInTurn_t_b53 n d (1 : Int32) a1 a2 a3 v1 I L))

set_option maxRecDepth 100000 in
set_option maxHeartbeats 4000000 in
theorem tX0_best_firstInTurn_t_b33 {x : am_X} (n d : Nat) (hc : am_ok x cX0_best yX0_best 10 (some .int) (d + 2) 0 0) {r : Int32} {I' : am_I} {L' : am_L} (s0 : Int32) (s1 : Int32) (a1 : Int32) (a2 : Int32) (a3 : Int32) (a5 : Int32) (I : am_I) (L : am_L) (hf : fX0_best_firstInTurn_t_b33 n d s0 s1 a1 a2 a3 a5 I L = some (r, I', L')) : am_J x (fun S => S = (some (.int r), (KC true), (RC true), I', L')) 33 [none, some (.int a1), some (.int a2), some (.int a3), some (.ref 67), some (.int a5), none, none, none, none] [.int s1, .int s0] (KC true) (RC true) I L 0 0 := by
  unfold fX0_best_firstInTurn_t_b33 at hf
  refine j_imul hc dX0_best_33 ?_
  refine j_iconst (v := (2 : Int32)) hc dX0_best_34 ci_2 ?_
  refine j_iadd hc dX0_best_35 ?_
  refine j_iconst (v := (0 : Int32)) hc dX0_best_36 ci_0 ?_
  refine j_isub hc dX0_best_37 ?_
  refine j_istore hc dX0_best_38 (Nat.le_of_ble_eq_true rfl) hf (fun v1 hf => ?_)
  refine j_iload_n hc dX0_best_40 rfl ?_
  refine j_iconst (v := (1 : Int32)) hc dX0_best_41 ci_1 ?_
  refine j_isub hc dX0_best_42 ?_
  refine j_iload hc dX0_best_43 rfl ?_
  refine j_icmp_le (tgt := 52) hc dX0_best_45 rfl hf (fun hf => ?_) (fun hf => ?_)
  · refine j_iconst (v := (0 : Int32)) hc dX0_best_52 ci_0 ?_
    exact j_sub (tX0_best_firstInTurn_t_b53 n d hc _ _ _ _ _ _ _ hf) (And.intro rfl (And.intro rfl (And.intro rfl (And.intro rfl (And.intro rfl (trivial))))))
  · refine j_iconst (v := (1 : Int32)) hc dX0_best_48 ci_1 ?_
    refine j_goto (tgt := 53) hc dX0_best_49 rfl ?_
    exact j_sub (tX0_best_firstInTurn_t_b53 n d hc _ _ _ _ _ _ _ hf) (And.intro rfl (And.intro rfl (And.intro rfl (And.intro rfl (And.intro rfl (trivial))))))

set_option maxRecDepth 100000 in
def fX0_best_firstInTurn_t (n d : Nat) (a1 : Int32) (a2 : Int32) (a3 : Int32) (I : am_I) (L : am_L) : Option (Int32 × am_I × am_L) :=
  am_ck a1 75 (am_lt (I 55 (a1).toNatClampNeg) (fun v1 => am_lt v1 (fun v2 => if v2 = 0 then
    (fX0_best_firstInTurn_t_b33 n d (4 : Int32) (-999 : Int32) a1 a2 a3 v2 I L)
    else
    (am_ck ((a2 * (75 : Int32)) + v2) 5625 (am_lt (I 67 (((a2 * (75 : Int32)) + v2)).toNatClampNeg) (fun v3 => am_b3 (fX0_answered n d v3 I L) (fun v4 I4 L4 => fX0_best_firstInTurn_t_b33 n d (4 : Int32) v4 a1 a2 a3 v2 I4 L4)))))))

set_option maxRecDepth 100000 in
set_option maxHeartbeats 4000000 in
theorem tX0_best_firstInTurn_t {x : am_X} (n d : Nat) (hc : am_ok x cX0_best yX0_best 10 (some .int) (d + 2) 0 0) {r : Int32} {I' : am_I} {L' : am_L} (a1 : Int32) (a2 : Int32) (a3 : Int32) (I : am_I) (L : am_L) (hf : fX0_best_firstInTurn_t n d a1 a2 a3 I L = some (r, I', L')) : am_J x (fun S => S = (some (.int r), (KC true), (RC true), I', L')) 0 [some (.ref 51), some (.int a1), some (.int a2), some (.int a3), some (.ref 67), none, none, none, none, none] [] (KC true) (RC true) I L 0 0 := by
  unfold fX0_best_firstInTurn_t at hf
  refine j_aload_n hc dX0_best_0 rfl ?_
  refine j_getR (u := 55) hc dX0_best_1 (fgC_X0_23_51 _) (rC_51_3 _) ?_
  refine j_iload_n hc dX0_best_4 rfl ?_
  refine j_iaload (n := 75) hc dX0_best_5 (kC_55 _) hf (fun v1 hf => ?_)
  refine j_istore hc dX0_best_6 (Nat.le_of_ble_eq_true rfl) hf (fun v2 hf => ?_)
  refine j_iconst (v := (4 : Int32)) hc dX0_best_8 ci_4 ?_
  refine j_iload hc dX0_best_9 rfl ?_
  refine j_if_ne (tgt := 20) hc dX0_best_11 rfl hf (fun hf => ?_) (fun hf => ?_)
  · refine j_aload hc dX0_best_20 rfl ?_
    refine j_iload_n hc dX0_best_22 rfl ?_
    refine j_bipush (v := (75 : Int32)) hc dX0_best_23 cb_75 ?_
    refine j_imul hc dX0_best_25 ?_
    refine j_iload hc dX0_best_26 rfl ?_
    refine j_iadd hc dX0_best_28 ?_
    refine j_iaload (n := 5625) hc dX0_best_29 kC_67 hf (fun v3 hf => ?_)
    refine j_callSI (As := [.int v3]) hc dX0_best_30 kw_1121 mX0_answered  rfl (by omega) (Nat.le_of_ble_eq_true rfl) (Nat.le_of_ble_eq_true rfl) ⟨Nat.le_refl _, Nat.le_refl _⟩ hf (fun v I' L' h => qX0_answered x.2.1 n d v3 I L v I' L' h) (fun v4 I4 L4 hf => ?_)
    exact j_sub (tX0_best_firstInTurn_t_b33 n d hc _ _ _ _ _ _ _ _ hf) (And.intro rfl (And.intro rfl (And.intro rfl (And.intro rfl (And.intro rfl (trivial))))))
  · refine j_sipush (v := (-999 : Int32)) hc dX0_best_14 cs_m999 ?_
    refine j_goto (tgt := 33) hc dX0_best_17 rfl ?_
    exact j_sub (tX0_best_firstInTurn_t_b33 n d hc _ _ _ _ _ _ _ _ hf) (And.intro rfl (And.intro rfl (And.intro rfl (And.intro rfl (And.intro rfl (trivial))))))

set_option maxRecDepth 100000 in
theorem qX0_best_firstInTurn_t (l : Launch) (n d : Nat) (a1 : Int32) (a2 : Int32) (a3 : Int32) (I : am_I) (L : am_L) (r : Int32) (I' : am_I) (L' : am_L) (hf : fX0_best_firstInTurn_t n d a1 a2 a3 I L = some (r, I', L')) : am_C l yX0_best cX0_best 10 (some .int) (d + 2) [.ref 51, .int a1, .int a2, .int a3, .ref 67] (KC true) (RC true) I L (some (.int r)) I' L' := by
  exact am_intro (plainFor_of_name plX0) (fun _ _ => trivial) (Nat.le_of_ble_eq_true rfl) (fun x hl hc => by subst hl; exact j_sub (tX0_best_firstInTurn_t n d hc _ _ _ _ _ hf) (And.intro rfl (And.intro rfl (And.intro rfl (And.intro rfl (And.intro rfl (trivial)))))))
set_option maxRecDepth 100000 in
def fX0_settleAll_t_b12w (n d : Nat) (k2 : Int32 → am_I → am_L → Option (am_I × am_L)) (k12 : Int32 → Int32 → am_I → am_L → Option (am_I × am_L)) (a1 : Int32) (a2 : Int32) (I : am_I) (L : am_L) : Option (am_I × am_L) :=
  if (I 51 11) < a2 then
    (am_lt (a1 + (1 : Int32)) (fun v1 => k2 v1 I L))
    else
    (am_ck a2 75 (am_lt (I 56 (a2).toNatClampNeg) (fun v2 => am_b3 (fX0_best_otherInTurn_t n d a1 a2 v2 I L) (fun v3 I3 L3 => am_ck ((a1 * (75 : Int32)) + a2) 5625 (am_lt (am_up I3 67 (((a1 * (75 : Int32)) + a2)).toNatClampNeg v3) (fun I4 => am_ck a1 75 (am_lt (I4 57 (a1).toNatClampNeg) (fun v5 => am_b3 (fX0_best_firstInTurn_t n d a2 a1 v5 I4 L3) (fun v6 I6 L6 => am_ck ((a2 * (75 : Int32)) + a1) 5625 (am_lt (am_up I6 68 (((a2 * (75 : Int32)) + a1)).toNatClampNeg v6) (fun I7 => am_lt (a2 + (1 : Int32)) (fun v8 => k12 a1 v8 I7 L6))))))))))))

set_option maxRecDepth 100000 in
set_option maxHeartbeats 4000000 in
theorem tX0_settleAll_t_b12w {x : am_X} (n d : Nat) (hc : am_ok x cX0_settleAll yX0_settleAll 3 none (d + 3) 0 0) {I' : am_I} {L' : am_L} (k2 : Int32 → am_I → am_L → Option (am_I × am_L)) (k12 : Int32 → Int32 → am_I → am_L → Option (am_I × am_L)) (hk2 : ∀ (a1 : Int32) (I : am_I) (L : am_L), k2 a1 I L = some (I', L') → am_J x (fun S => S = (none, (KC true), (RC true), I', L')) 2 [some (.ref 51), some (.int a1), none] [] (KC true) (RC true) I L 0 0) (hk12 : ∀ (a1 : Int32) (a2 : Int32) (I : am_I) (L : am_L), k12 a1 a2 I L = some (I', L') → am_J x (fun S => S = (none, (KC true), (RC true), I', L')) 12 [some (.ref 51), some (.int a1), some (.int a2)] [] (KC true) (RC true) I L 0 0) (a1 : Int32) (a2 : Int32) (I : am_I) (L : am_L) (hf : fX0_settleAll_t_b12w n d k2 k12 a1 a2 I L = some (I', L')) : am_J x (fun S => S = (none, (KC true), (RC true), I', L')) 12 [some (.ref 51), some (.int a1), some (.int a2)] [] (KC true) (RC true) I L 0 0 := by
  unfold fX0_settleAll_t_b12w at hf
  refine j_iload_n hc dX0_settleAll_12 rfl ?_
  refine j_aload_n hc dX0_settleAll_13 rfl ?_
  refine j_getI hc dX0_settleAll_14 (fgC_X0_48_51 _) ?_
  refine j_icmp_gt (tgt := 80) hc dX0_settleAll_17 rfl hf (fun hf => ?_) (fun hf => ?_)
  · refine j_iinc (w := (1 : Int32)) hc dX0_settleAll_80 rfl ci_1 (Nat.le_of_ble_eq_true rfl) hf (fun v1 hf => ?_)
    refine j_goto (tgt := 2) hc dX0_settleAll_83 rfl ?_
    exact j_sub (hk2 _ _ _ hf) (And.intro rfl (And.intro rfl (trivial)))
  · refine j_aload_n hc dX0_settleAll_20 rfl ?_
    refine j_getR (u := 67) hc dX0_settleAll_21 (fgC_X0_32_51 _) rC_51_6t ?_
    refine j_iload_n hc dX0_settleAll_24 rfl ?_
    refine j_bipush (v := (75 : Int32)) hc dX0_settleAll_25 cb_75 ?_
    refine j_imul hc dX0_settleAll_27 ?_
    refine j_iload_n hc dX0_settleAll_28 rfl ?_
    refine j_iadd hc dX0_settleAll_29 ?_
    refine j_aload_n hc dX0_settleAll_30 rfl ?_
    refine j_iload_n hc dX0_settleAll_31 rfl ?_
    refine j_iload_n hc dX0_settleAll_32 rfl ?_
    refine j_aload_n hc dX0_settleAll_33 rfl ?_
    refine j_getR (u := 56) hc dX0_settleAll_34 (fgC_X0_26_51 _) (rC_51_4 _) ?_
    refine j_iload_n hc dX0_settleAll_37 rfl ?_
    refine j_iaload (n := 75) hc dX0_settleAll_38 (kC_56 _) hf (fun v2 hf => ?_)
    refine j_aload_n hc dX0_settleAll_39 rfl ?_
    refine j_getR (u := 68) hc dX0_settleAll_40 (fgC_X0_35_51 _) rC_51_7t ?_
    refine j_callVI (t := 51) (As := [.int a1, .int a2, .int v2, .ref 68]) hc dX0_settleAll_43 kw_1117 mX0_best (kC_51 _) clX0 rfl (by omega) (Nat.le_of_ble_eq_true rfl) (Nat.le_of_ble_eq_true rfl) ⟨Nat.le_refl _, Nat.le_refl _⟩ hf (fun v I' L' h => qX0_best_otherInTurn_t x.2.1 n d a1 a2 v2 I L v I' L' h) (fun v3 I3 L3 hf => ?_)
    refine j_iastore (n := 5625) hc dX0_settleAll_46 kC_67 hf (fun I4 hf => ?_)
    refine j_aload_n hc dX0_settleAll_47 rfl ?_
    refine j_getR (u := 68) hc dX0_settleAll_48 (fgC_X0_35_51 _) rC_51_7t ?_
    refine j_iload_n hc dX0_settleAll_51 rfl ?_
    refine j_bipush (v := (75 : Int32)) hc dX0_settleAll_52 cb_75 ?_
    refine j_imul hc dX0_settleAll_54 ?_
    refine j_iload_n hc dX0_settleAll_55 rfl ?_
    refine j_iadd hc dX0_settleAll_56 ?_
    refine j_aload_n hc dX0_settleAll_57 rfl ?_
    refine j_iload_n hc dX0_settleAll_58 rfl ?_
    refine j_iload_n hc dX0_settleAll_59 rfl ?_
    refine j_aload_n hc dX0_settleAll_60 rfl ?_
    refine j_getR (u := 57) hc dX0_settleAll_61 (fgC_X0_29_51 _) (rC_51_5 _) ?_
    refine j_iload_n hc dX0_settleAll_64 rfl ?_
    refine j_iaload (n := 75) hc dX0_settleAll_65 (kC_57 _) hf (fun v5 hf => ?_)
    refine j_aload_n hc dX0_settleAll_66 rfl ?_
    refine j_getR (u := 67) hc dX0_settleAll_67 (fgC_X0_32_51 _) rC_51_6t ?_
    refine j_callVI (t := 51) (As := [.int a2, .int a1, .int v5, .ref 67]) hc dX0_settleAll_70 kw_1117 mX0_best (kC_51 _) clX0 rfl (by omega) (Nat.le_of_ble_eq_true rfl) (Nat.le_of_ble_eq_true rfl) ⟨Nat.le_refl _, Nat.le_refl _⟩ hf (fun v I' L' h => qX0_best_firstInTurn_t x.2.1 n d a2 a1 v5 I4 L3 v I' L' h) (fun v6 I6 L6 hf => ?_)
    refine j_iastore (n := 5625) hc dX0_settleAll_73 kC_68 hf (fun I7 hf => ?_)
    refine j_iinc (w := (1 : Int32)) hc dX0_settleAll_74 rfl ci_1 (Nat.le_of_ble_eq_true rfl) hf (fun v8 hf => ?_)
    refine j_goto (tgt := 12) hc dX0_settleAll_77 rfl ?_
    exact j_sub (hk12 _ _ _ _ hf) (And.intro rfl (And.intro rfl (And.intro rfl (trivial))))

def fX0_settleAll_t_b12 (n d : Nat) (k2 : Int32 → am_I → am_L → Option (am_I × am_L)) : Nat → Int32 → Int32 → am_I → am_L → Option (am_I × am_L)
  | 0 => fun _ _ _ _ => none
  | m + 1 => fX0_settleAll_t_b12w n d  k2 (fX0_settleAll_t_b12 n d k2 m)

set_option maxRecDepth 100000 in
theorem tX0_settleAll_t_b12 {x : am_X} (n d : Nat) (hc : am_ok x cX0_settleAll yX0_settleAll 3 none (d + 3) 0 0) {I' : am_I} {L' : am_L} (k2 : Int32 → am_I → am_L → Option (am_I × am_L)) (hk2 : ∀ (a1 : Int32) (I : am_I) (L : am_L), k2 a1 I L = some (I', L') → am_J x (fun S => S = (none, (KC true), (RC true), I', L')) 2 [some (.ref 51), some (.int a1), none] [] (KC true) (RC true) I L 0 0) (m : Nat) : ∀ (a1 : Int32) (a2 : Int32) (I : am_I) (L : am_L) (hf : fX0_settleAll_t_b12 n d k2 m a1 a2 I L = some (I', L')), am_J x (fun S => S = (none, (KC true), (RC true), I', L')) 12 [some (.ref 51), some (.int a1), some (.int a2)] [] (KC true) (RC true) I L 0 0 := by
  induction m with
  | zero => intro a1 a2 I L hf; exact (Option.some_ne_none _ hf.symm).elim
  | succ m ih => intro a1 a2 I L hf; exact tX0_settleAll_t_b12w n d hc k2 (fX0_settleAll_t_b12 n d k2 m) hk2 ih a1 a2 I L hf

set_option maxRecDepth 100000 in
def fX0_settleAll_t_b2w (n d : Nat) (k2 : Int32 → am_I → am_L → Option (am_I × am_L)) (a1 : Int32) (I : am_I) (L : am_L) : Option (am_I × am_L) :=
  if (I 51 10) < a1 then
    (some (I, L))
    else
    (am_lt (1 : Int32) (fun v1 => fX0_settleAll_t_b12 n d k2 n a1 v1 I L))

set_option maxRecDepth 100000 in
set_option maxHeartbeats 4000000 in
theorem tX0_settleAll_t_b2w {x : am_X} (n d : Nat) (hc : am_ok x cX0_settleAll yX0_settleAll 3 none (d + 3) 0 0) {I' : am_I} {L' : am_L} (k2 : Int32 → am_I → am_L → Option (am_I × am_L)) (hk2 : ∀ (a1 : Int32) (I : am_I) (L : am_L), k2 a1 I L = some (I', L') → am_J x (fun S => S = (none, (KC true), (RC true), I', L')) 2 [some (.ref 51), some (.int a1), none] [] (KC true) (RC true) I L 0 0) (a1 : Int32) (I : am_I) (L : am_L) (hf : fX0_settleAll_t_b2w n d k2 a1 I L = some (I', L')) : am_J x (fun S => S = (none, (KC true), (RC true), I', L')) 2 [some (.ref 51), some (.int a1), none] [] (KC true) (RC true) I L 0 0 := by
  unfold fX0_settleAll_t_b2w at hf
  refine j_iload_n hc dX0_settleAll_2 rfl ?_
  refine j_aload_n hc dX0_settleAll_3 rfl ?_
  refine j_getI hc dX0_settleAll_4 (fgC_X0_45_51 _) ?_
  refine j_icmp_gt (tgt := 86) hc dX0_settleAll_7 rfl hf (fun hf => ?_) (fun hf => ?_)
  · exact j_return hc dX0_settleAll_86 rfl rfl hf
  · refine j_iconst (v := (1 : Int32)) hc dX0_settleAll_10 ci_1 ?_
    refine j_istore_n hc dX0_settleAll_11 (Nat.le_of_ble_eq_true rfl) hf (fun v1 hf => ?_)
    exact j_sub (tX0_settleAll_t_b12 n d hc k2 hk2 n _ _ _ _ hf) (And.intro rfl (And.intro rfl (And.intro rfl (trivial))))

def fX0_settleAll_t_b2 (n d : Nat) : Nat → Int32 → am_I → am_L → Option (am_I × am_L)
  | 0 => fun _ _ _ => none
  | m + 1 => fX0_settleAll_t_b2w n d  (fX0_settleAll_t_b2 n d m)

set_option maxRecDepth 100000 in
theorem tX0_settleAll_t_b2 {x : am_X} (n d : Nat) (hc : am_ok x cX0_settleAll yX0_settleAll 3 none (d + 3) 0 0) {I' : am_I} {L' : am_L} (m : Nat) : ∀ (a1 : Int32) (I : am_I) (L : am_L) (hf : fX0_settleAll_t_b2 n d m a1 I L = some (I', L')), am_J x (fun S => S = (none, (KC true), (RC true), I', L')) 2 [some (.ref 51), some (.int a1), none] [] (KC true) (RC true) I L 0 0 := by
  induction m with
  | zero => intro a1 I L hf; exact (Option.some_ne_none _ hf.symm).elim
  | succ m ih => intro a1 I L hf; exact tX0_settleAll_t_b2w n d hc (fX0_settleAll_t_b2 n d m) ih a1 I L hf

set_option maxRecDepth 100000 in
def fX0_settleAll_t (n d : Nat) (I : am_I) (L : am_L) : Option (am_I × am_L) :=
  am_lt (1 : Int32) (fun v1 => fX0_settleAll_t_b2 n d n v1 I L)

set_option maxRecDepth 100000 in
set_option maxHeartbeats 4000000 in
theorem tX0_settleAll_t {x : am_X} (n d : Nat) (hc : am_ok x cX0_settleAll yX0_settleAll 3 none (d + 3) 0 0) {I' : am_I} {L' : am_L} (I : am_I) (L : am_L) (hf : fX0_settleAll_t n d I L = some (I', L')) : am_J x (fun S => S = (none, (KC true), (RC true), I', L')) 0 [some (.ref 51), none, none] [] (KC true) (RC true) I L 0 0 := by
  unfold fX0_settleAll_t at hf
  refine j_iconst (v := (1 : Int32)) hc dX0_settleAll_0 ci_1 ?_
  refine j_istore_n hc dX0_settleAll_1 (Nat.le_of_ble_eq_true rfl) hf (fun v1 hf => ?_)
  exact j_sub (tX0_settleAll_t_b2 n d hc n _ _ _ hf) (And.intro rfl (And.intro rfl (trivial)))

set_option maxRecDepth 100000 in
theorem qX0_settleAll_t (l : Launch) (n d : Nat) (I : am_I) (L : am_L) (I' : am_I) (L' : am_L) (hf : fX0_settleAll_t n d I L = some (I', L')) : am_C l yX0_settleAll cX0_settleAll 3 none (d + 3) [.ref 51] (KC true) (RC true) I L none I' L' := by
  exact am_intro (plainFor_of_name plX0) (fun _ _ => trivial) (Nat.le_of_ble_eq_true rfl) (fun x hl hc => by subst hl; exact j_sub (tX0_settleAll_t n d hc  _ _ hf) (And.intro rfl (trivial)))
set_option maxRecDepth 100000 in
def fX0_prepare_t_b78 (n d : Nat) (a1 : Int32) (a2 : Int32) (a3 : Int32) (a4 : Int32) (I : am_I) (L : am_L) : Option (am_I × am_L) :=
  am_lt (am_up I 51 8 a1) (fun I1 => am_lt (am_up I1 51 9 a2) (fun I2 => am_b3 (fJ9_min_7cf53 n d a3 (74 : Int32) I2 L) (fun v3 I3 L3 => am_lt (am_up I3 51 10 v3) (fun I4 => am_b3 (fJ9_min_7cf53 n d a4 (74 : Int32) I4 L3) (fun v5 I5 L5 => am_lt (am_up I5 51 11 v5) (fun I6 => am_b2 (fX0_findPressed_c51_pressedByFirst n d a1 I6 L5) (fun I7 L7 => am_b2 (fX0_findPressed_c51_pressedByOther n d a2 I7 L7) (fun I8 L8 => am_b2 (fX0_settleAll_t n d I8 L8) (fun I9 L9 => some (I9, L9))))))))))

set_option maxRecDepth 100000 in
set_option maxHeartbeats 4000000 in
theorem tX0_prepare_t_b78 {x : am_X} (n d : Nat) (hc : am_ok x cX0_prepare yX0_prepare 6 none (d + 4) 0 0) {I' : am_I} {L' : am_L} (a1 : Int32) (a2 : Int32) (a3 : Int32) (a4 : Int32) (I : am_I) (L : am_L) (hf : fX0_prepare_t_b78 n d a1 a2 a3 a4 I L = some (I', L')) : am_J x (fun S => S = (none, (KC true), (RC true), I', L')) 78 [some (.ref 51), some (.int a1), some (.int a2), some (.int a3), some (.int a4), none] [] (KC true) (RC true) I L 0 0 := by
  unfold fX0_prepare_t_b78 at hf
  refine j_aload_n hc dX0_prepare_78 rfl ?_
  refine j_iload_n hc dX0_prepare_79 rfl ?_
  refine j_putI hc dX0_prepare_80 (fpC_X0_38_51 _) rfl rfl hf (fun I1 hf => ?_)
  refine j_aload_n hc dX0_prepare_83 rfl ?_
  refine j_iload_n hc dX0_prepare_84 rfl ?_
  refine j_putI hc dX0_prepare_85 (fpC_X0_42_51 _) rfl rfl hf (fun I2 hf => ?_)
  refine j_aload_n hc dX0_prepare_88 rfl ?_
  refine j_iload_n hc dX0_prepare_89 rfl ?_
  refine j_bipush (v := (74 : Int32)) hc dX0_prepare_90 cb_74 ?_
  refine j_callSI (As := [.int a3, .int (74 : Int32)]) hc dX0_prepare_92 kw_1107 mJ9_min_7cf53  rfl (by omega) (Nat.le_of_ble_eq_true rfl) (Nat.le_of_ble_eq_true rfl) ⟨Nat.le_refl _, Nat.le_refl _⟩ hf (fun v I' L' h => qJ9_min_7cf53 x.2.1 n d a3 (74 : Int32) I2 L v I' L' h) (fun v3 I3 L3 hf => ?_)
  refine j_putI hc dX0_prepare_95 (fpC_X0_45_51 _) rfl rfl hf (fun I4 hf => ?_)
  refine j_aload_n hc dX0_prepare_98 rfl ?_
  refine j_iload hc dX0_prepare_99 rfl ?_
  refine j_bipush (v := (74 : Int32)) hc dX0_prepare_101 cb_74 ?_
  refine j_callSI (As := [.int a4, .int (74 : Int32)]) hc dX0_prepare_103 kw_1107 mJ9_min_7cf53  rfl (by omega) (Nat.le_of_ble_eq_true rfl) (Nat.le_of_ble_eq_true rfl) ⟨Nat.le_refl _, Nat.le_refl _⟩ hf (fun v I' L' h => qJ9_min_7cf53 x.2.1 n d a4 (74 : Int32) I4 L3 v I' L' h) (fun v5 I5 L5 hf => ?_)
  refine j_putI hc dX0_prepare_106 (fpC_X0_48_51 _) rfl rfl hf (fun I6 hf => ?_)
  refine j_aload_n hc dX0_prepare_109 rfl ?_
  refine j_aload_n hc dX0_prepare_110 rfl ?_
  refine j_getR (u := 56) hc dX0_prepare_111 (fgC_X0_26_51 _) (rC_51_4 _) ?_
  refine j_iload_n hc dX0_prepare_114 rfl ?_
  refine j_callVV (t := 51) (As := [.ref 56, .int a1]) hc dX0_prepare_115 kw_1108 mX0_findPressed (kC_51 _) clX0 rfl (by omega) (Nat.le_of_ble_eq_true rfl) (Nat.le_of_ble_eq_true rfl) ⟨Nat.le_refl _, Nat.le_refl _⟩ hf (fun I' L' h => qX0_findPressed_c51_pressedByFirst x.2.1 n d a1 I6 L5 I' L' h) (fun I7 L7 hf => ?_)
  refine j_aload_n hc dX0_prepare_118 rfl ?_
  refine j_aload_n hc dX0_prepare_119 rfl ?_
  refine j_getR (u := 57) hc dX0_prepare_120 (fgC_X0_29_51 _) (rC_51_5 _) ?_
  refine j_iload_n hc dX0_prepare_123 rfl ?_
  refine j_callVV (t := 51) (As := [.ref 57, .int a2]) hc dX0_prepare_124 kw_1108 mX0_findPressed (kC_51 _) clX0 rfl (by omega) (Nat.le_of_ble_eq_true rfl) (Nat.le_of_ble_eq_true rfl) ⟨Nat.le_refl _, Nat.le_refl _⟩ hf (fun I' L' h => qX0_findPressed_c51_pressedByOther x.2.1 n d a2 I7 L7 I' L' h) (fun I8 L8 hf => ?_)
  refine j_aload_n hc dX0_prepare_127 rfl ?_
  refine j_callVV (t := 51) (As := []) hc dX0_prepare_128 kw_1113 mX0_settleAll (kC_51 _) clX0 rfl (by omega) (Nat.le_of_ble_eq_true rfl) (Nat.le_of_ble_eq_true rfl) ⟨Nat.le_refl _, Nat.le_refl _⟩ hf (fun I' L' h => qX0_settleAll_t x.2.1 n d I8 L8 I' L' h) (fun I9 L9 hf => ?_)
  exact j_return hc dX0_prepare_131 rfl rfl hf

set_option maxRecDepth 100000 in
def fX0_prepare_t_b46 (n d : Nat) (a1 : Int32) (a2 : Int32) (a3 : Int32) (a4 : Int32) (I : am_I) (L : am_L) : Option (am_I × am_L) :=
  fX0_prepare_t_b78 n d a1 a2 a3 a4 I L

set_option maxRecDepth 100000 in
set_option maxHeartbeats 4000000 in
theorem tX0_prepare_t_b46 {x : am_X} (n d : Nat) (hc : am_ok x cX0_prepare yX0_prepare 6 none (d + 4) 0 0) {I' : am_I} {L' : am_L} (a1 : Int32) (a2 : Int32) (a3 : Int32) (a4 : Int32) (I : am_I) (L : am_L) (hf : fX0_prepare_t_b46 n d a1 a2 a3 a4 I L = some (I', L')) : am_J x (fun S => S = (none, (KC true), (RC true), I', L')) 46 [some (.ref 51), some (.int a1), some (.int a2), some (.int a3), some (.int a4), none] [] (KC true) (RC true) I L 0 0 := by
  unfold fX0_prepare_t_b46 at hf
  refine j_aload_n hc dX0_prepare_46 rfl ?_
  refine j_getR (u := 67) hc dX0_prepare_47 (fgC_X0_32_51 _) rC_51_6t ?_
  refine j_ifnullR hc dX0_prepare_50 ?_
  refine j_aload_n hc dX0_prepare_53 rfl ?_
  refine j_getR (u := 68) hc dX0_prepare_54 (fgC_X0_35_51 _) rC_51_7t ?_
  refine j_ifnonnullR (tgt := 78) hc dX0_prepare_57 rfl ?_
  exact j_sub (tX0_prepare_t_b78 n d hc _ _ _ _ _ _ hf) (And.intro rfl (And.intro rfl (And.intro rfl (And.intro rfl (And.intro rfl (trivial))))))

set_option maxRecDepth 100000 in
def fX0_prepare_t_b21 (n d : Nat) (s0 : Int32) (a1 : Int32) (a2 : Int32) (a3 : Int32) (a4 : Int32) (I : am_I) (L : am_L) : Option (am_I × am_L) :=
  am_lt s0 (fun v1 => if v1 = 0 then
    (fX0_prepare_t_b46 n d a1 a2 a3 a4 I L)
    else
    (if (I 51 10) < a3 then
      (fX0_prepare_t_b46 n d a1 a2 a3 a4 I L)
      else
      (if (I 51 11) < a4 then
        (fX0_prepare_t_b46 n d a1 a2 a3 a4 I L)
        else
        (some (I, L)))))

set_option maxRecDepth 100000 in
set_option maxHeartbeats 4000000 in
theorem tX0_prepare_t_b21 {x : am_X} (n d : Nat) (hc : am_ok x cX0_prepare yX0_prepare 6 none (d + 4) 0 0) {I' : am_I} {L' : am_L} (s0 : Int32) (a1 : Int32) (a2 : Int32) (a3 : Int32) (a4 : Int32) (I : am_I) (L : am_L) (hf : fX0_prepare_t_b21 n d s0 a1 a2 a3 a4 I L = some (I', L')) : am_J x (fun S => S = (none, (KC true), (RC true), I', L')) 21 [some (.ref 51), some (.int a1), some (.int a2), some (.int a3), some (.int a4), none] [.int s0] (KC true) (RC true) I L 0 0 := by
  unfold fX0_prepare_t_b21 at hf
  refine j_istore hc dX0_prepare_21 (Nat.le_of_ble_eq_true rfl) hf (fun v1 hf => ?_)
  refine j_iload hc dX0_prepare_23 rfl ?_
  refine j_if_eq (tgt := 46) hc dX0_prepare_25 rfl hf (fun hf => ?_) (fun hf => ?_)
  · exact j_sub (tX0_prepare_t_b46 n d hc _ _ _ _ _ _ hf) (And.intro rfl (And.intro rfl (And.intro rfl (And.intro rfl (And.intro rfl (trivial))))))
  · refine j_iload_n hc dX0_prepare_28 rfl ?_
    refine j_aload_n hc dX0_prepare_29 rfl ?_
    refine j_getI hc dX0_prepare_30 (fgC_X0_45_51 _) ?_
    refine j_icmp_gt (tgt := 46) hc dX0_prepare_33 rfl hf (fun hf => ?_) (fun hf => ?_)
    · exact j_sub (tX0_prepare_t_b46 n d hc _ _ _ _ _ _ hf) (And.intro rfl (And.intro rfl (And.intro rfl (And.intro rfl (And.intro rfl (trivial))))))
    · refine j_iload hc dX0_prepare_36 rfl ?_
      refine j_aload_n hc dX0_prepare_38 rfl ?_
      refine j_getI hc dX0_prepare_39 (fgC_X0_48_51 _) ?_
      refine j_icmp_gt (tgt := 46) hc dX0_prepare_42 rfl hf (fun hf => ?_) (fun hf => ?_)
      · exact j_sub (tX0_prepare_t_b46 n d hc _ _ _ _ _ _ hf) (And.intro rfl (And.intro rfl (And.intro rfl (And.intro rfl (And.intro rfl (trivial))))))
      · exact j_return hc dX0_prepare_45 rfl rfl hf

set_option maxRecDepth 100000 in
def fX0_prepare_t_b20 (n d : Nat) (a1 : Int32) (a2 : Int32) (a3 : Int32) (a4 : Int32) (I : am_I) (L : am_L) : Option (am_I × am_L) :=
  fX0_prepare_t_b21 n d (0 : Int32) a1 a2 a3 a4 I L

set_option maxRecDepth 100000 in
set_option maxHeartbeats 4000000 in
theorem tX0_prepare_t_b20 {x : am_X} (n d : Nat) (hc : am_ok x cX0_prepare yX0_prepare 6 none (d + 4) 0 0) {I' : am_I} {L' : am_L} (a1 : Int32) (a2 : Int32) (a3 : Int32) (a4 : Int32) (I : am_I) (L : am_L) (hf : fX0_prepare_t_b20 n d a1 a2 a3 a4 I L = some (I', L')) : am_J x (fun S => S = (none, (KC true), (RC true), I', L')) 20 [some (.ref 51), some (.int a1), some (.int a2), some (.int a3), some (.int a4), none] [] (KC true) (RC true) I L 0 0 := by
  unfold fX0_prepare_t_b20 at hf
  refine j_iconst (v := (0 : Int32)) hc dX0_prepare_20 ci_0 ?_
  exact j_sub (tX0_prepare_t_b21 n d hc _ _ _ _ _ _ _ hf) (And.intro rfl (And.intro rfl (And.intro rfl (And.intro rfl (And.intro rfl (trivial))))))

set_option maxRecDepth 100000 in
def fX0_prepare_t (n d : Nat) (a1 : Int32) (a2 : Int32) (a3 : Int32) (a4 : Int32) (I : am_I) (L : am_L) : Option (am_I × am_L) :=
  if a1 = (I 51 8) then
    (if a2 = (I 51 9) then
      (fX0_prepare_t_b21 n d (1 : Int32) a1 a2 a3 a4 I L)
      else
      (fX0_prepare_t_b20 n d a1 a2 a3 a4 I L))
    else
    (fX0_prepare_t_b20 n d a1 a2 a3 a4 I L)

set_option maxRecDepth 100000 in
set_option maxHeartbeats 4000000 in
theorem tX0_prepare_t {x : am_X} (n d : Nat) (hc : am_ok x cX0_prepare yX0_prepare 6 none (d + 4) 0 0) {I' : am_I} {L' : am_L} (a1 : Int32) (a2 : Int32) (a3 : Int32) (a4 : Int32) (I : am_I) (L : am_L) (hf : fX0_prepare_t n d a1 a2 a3 a4 I L = some (I', L')) : am_J x (fun S => S = (none, (KC true), (RC true), I', L')) 0 [some (.ref 51), some (.int a1), some (.int a2), some (.int a3), some (.int a4), none] [] (KC true) (RC true) I L 0 0 := by
  unfold fX0_prepare_t at hf
  refine j_iload_n hc dX0_prepare_0 rfl ?_
  refine j_aload_n hc dX0_prepare_1 rfl ?_
  refine j_getI hc dX0_prepare_2 (fgC_X0_38_51 _) ?_
  refine j_icmp_ne (tgt := 20) hc dX0_prepare_5 rfl hf (fun hf => ?_) (fun hf => ?_)
  · exact j_sub (tX0_prepare_t_b20 n d hc _ _ _ _ _ _ hf) (And.intro rfl (And.intro rfl (And.intro rfl (And.intro rfl (And.intro rfl (trivial))))))
  · refine j_iload_n hc dX0_prepare_8 rfl ?_
    refine j_aload_n hc dX0_prepare_9 rfl ?_
    refine j_getI hc dX0_prepare_10 (fgC_X0_42_51 _) ?_
    refine j_icmp_ne (tgt := 20) hc dX0_prepare_13 rfl hf (fun hf => ?_) (fun hf => ?_)
    · exact j_sub (tX0_prepare_t_b20 n d hc _ _ _ _ _ _ hf) (And.intro rfl (And.intro rfl (And.intro rfl (And.intro rfl (And.intro rfl (trivial))))))
    · refine j_iconst (v := (1 : Int32)) hc dX0_prepare_16 ci_1 ?_
      refine j_goto (tgt := 21) hc dX0_prepare_17 rfl ?_
      exact j_sub (tX0_prepare_t_b21 n d hc _ _ _ _ _ _ _ hf) (And.intro rfl (And.intro rfl (And.intro rfl (And.intro rfl (And.intro rfl (trivial))))))

set_option maxRecDepth 100000 in
theorem qX0_prepare_t (l : Launch) (n d : Nat) (a1 : Int32) (a2 : Int32) (a3 : Int32) (a4 : Int32) (I : am_I) (L : am_L) (I' : am_I) (L' : am_L) (hf : fX0_prepare_t n d a1 a2 a3 a4 I L = some (I', L')) : am_C l yX0_prepare cX0_prepare 6 none (d + 4) [.ref 51, .int a1, .int a2, .int a3, .int a4] (KC true) (RC true) I L none I' L' := by
  exact am_intro (plainFor_of_name plX0) (fun _ _ => trivial) (Nat.le_of_ble_eq_true rfl) (fun x hl hc => by subst hl; exact j_sub (tX0_prepare_t n d hc _ _ _ _ _ _ hf) (And.intro rfl (And.intro rfl (And.intro rfl (And.intro rfl (And.intro rfl (trivial)))))))
set_option maxRecDepth 100000 in
def fX11_makeDuelReady_t_b42 (n d : Nat) (I : am_I) (L : am_L) : Option (am_I × am_L) :=
  some (I, L)

set_option maxRecDepth 100000 in
set_option maxHeartbeats 4000000 in
theorem tX11_makeDuelReady_t_b42 {x : am_X} (n d : Nat) (hc : am_ok x cX11_makeDuelReady yX11_makeDuelReady 5 none (d + 5) 0 0) {I' : am_I} {L' : am_L} (I : am_I) (L : am_L) (hf : fX11_makeDuelReady_t_b42 n d I L = some (I', L')) : am_J x (fun S => S = (none, (KC true), (RC true), I', L')) 42 [none, none, none, none, none] [] (KC true) (RC true) I L 0 0 := by
  unfold fX11_makeDuelReady_t_b42 at hf
  exact j_return hc dX11_makeDuelReady_42 rfl rfl hf

set_option maxRecDepth 100000 in
def fX11_makeDuelReady_t (n d : Nat) (a1 : Int32) (a2 : Int32) (I : am_I) (L : am_L) : Option (am_I × am_L) :=
  am_ck a1 8 (am_lt (I 6 (a1).toNatClampNeg) (fun v1 => am_lt v1 (fun v2 => am_ck a2 8 (am_lt (I 6 (a2).toNatClampNeg) (fun v3 => am_lt v3 (fun v4 => am_b3 (fX11_farthestPlace n d v2 I L) (fun v5 I5 L5 => am_b3 (fX11_farthestPlace n d v4 I5 L5) (fun v6 I6 L6 => am_b2 (fX0_prepare_t n d v2 v4 v5 v6 I6 L6) (fun I7 L7 => fX11_makeDuelReady_t_b42 n d I7 L7)))))))))

set_option maxRecDepth 100000 in
set_option maxHeartbeats 4000000 in
theorem tX11_makeDuelReady_t {x : am_X} (n d : Nat) (hc : am_ok x cX11_makeDuelReady yX11_makeDuelReady 5 none (d + 5) 0 0) {I' : am_I} {L' : am_L} (a1 : Int32) (a2 : Int32) (I : am_I) (L : am_L) (hf : fX11_makeDuelReady_t n d a1 a2 I L = some (I', L')) : am_J x (fun S => S = (none, (KC true), (RC true), I', L')) 0 [some (.ref 0), some (.int a1), some (.int a2), none, none] [] (KC true) (RC true) I L 0 0 := by
  unfold fX11_makeDuelReady_t at hf
  refine j_aload_n hc dX11_makeDuelReady_0 rfl ?_
  refine j_getR (u := 3) hc dX11_makeDuelReady_1 (fgC_X11_19_0 _) (rC_0_1 _) ?_
  refine j_getR (u := 6) hc dX11_makeDuelReady_4 (fgC_X11_171_3 _) (rC_3_7 _) ?_
  refine j_iload_n hc dX11_makeDuelReady_7 rfl ?_
  refine j_iaload (n := 8) hc dX11_makeDuelReady_8 (kC_6 _) hf (fun v1 hf => ?_)
  refine j_istore_n hc dX11_makeDuelReady_9 (Nat.le_of_ble_eq_true rfl) hf (fun v2 hf => ?_)
  refine j_aload_n hc dX11_makeDuelReady_10 rfl ?_
  refine j_getR (u := 3) hc dX11_makeDuelReady_11 (fgC_X11_19_0 _) (rC_0_1 _) ?_
  refine j_getR (u := 6) hc dX11_makeDuelReady_14 (fgC_X11_171_3 _) (rC_3_7 _) ?_
  refine j_iload_n hc dX11_makeDuelReady_17 rfl ?_
  refine j_iaload (n := 8) hc dX11_makeDuelReady_18 (kC_6 _) hf (fun v3 hf => ?_)
  refine j_istore hc dX11_makeDuelReady_19 (Nat.le_of_ble_eq_true rfl) hf (fun v4 hf => ?_)
  refine j_aload_n hc dX11_makeDuelReady_21 rfl ?_
  refine j_getR (u := 51) hc dX11_makeDuelReady_22 (fgC_X11_77_0 _) (rC_0_9 _) ?_
  refine j_iload_n hc dX11_makeDuelReady_25 rfl ?_
  refine j_iload hc dX11_makeDuelReady_26 rfl ?_
  refine j_aload_n hc dX11_makeDuelReady_28 rfl ?_
  refine j_iload_n hc dX11_makeDuelReady_29 rfl ?_
  refine j_callVI (t := 0) (As := [.int v2]) hc dX11_makeDuelReady_30 kw_1090 mX11_farthestPlace (kC_0 _) clX11 rfl (by omega) (Nat.le_of_ble_eq_true rfl) (Nat.le_of_ble_eq_true rfl) ⟨Nat.le_refl _, Nat.le_refl _⟩ hf (fun v I' L' h => qX11_farthestPlace x.2.1 n d v2 I L v I' L' h) (fun v5 I5 L5 hf => ?_)
  refine j_aload_n hc dX11_makeDuelReady_33 rfl ?_
  refine j_iload hc dX11_makeDuelReady_34 rfl ?_
  refine j_callVI (t := 0) (As := [.int v4]) hc dX11_makeDuelReady_36 kw_1090 mX11_farthestPlace (kC_0 _) clX11 rfl (by omega) (Nat.le_of_ble_eq_true rfl) (Nat.le_of_ble_eq_true rfl) ⟨Nat.le_refl _, Nat.le_refl _⟩ hf (fun v I' L' h => qX11_farthestPlace x.2.1 n d v4 I5 L5 v I' L' h) (fun v6 I6 L6 hf => ?_)
  refine j_callVV (t := 51) (As := [.int v2, .int v4, .int v5, .int v6]) hc dX11_makeDuelReady_39 kw_1103 mX0_prepare (kC_51 _) clX0 rfl (by omega) (Nat.le_of_ble_eq_true rfl) (Nat.le_of_ble_eq_true rfl) ⟨Nat.le_refl _, Nat.le_refl _⟩ hf (fun I' L' h => qX0_prepare_t x.2.1 n d v2 v4 v5 v6 I6 L6 I' L' h) (fun I7 L7 hf => ?_)
  exact j_sub (tX11_makeDuelReady_t_b42 n d hc _ _ hf) (trivial)

set_option maxRecDepth 100000 in
theorem qX11_makeDuelReady_t (l : Launch) (n d : Nat) (a1 : Int32) (a2 : Int32) (I : am_I) (L : am_L) (I' : am_I) (L' : am_L) (hf : fX11_makeDuelReady_t n d a1 a2 I L = some (I', L')) : am_C l yX11_makeDuelReady cX11_makeDuelReady 5 none (d + 5) [.ref 0, .int a1, .int a2] (KC true) (RC true) I L none I' L' := by
  exact am_intro (plainFor_of_name plX11) (fun _ _ => trivial) (Nat.le_of_ble_eq_true rfl) (fun x hl hc => by subst hl; exact j_sub (tX11_makeDuelReady_t n d hc _ _ _ _ hf) (And.intro rfl (And.intro rfl (And.intro rfl (trivial)))))
set_option maxRecDepth 100000 in
def fX0_settled_t_b29 (n d : Nat) (s0 : Int32) (a1 : Int32) (a2 : Int32) (I : am_I) (L : am_L) : Option (Int32 × am_I × am_L) :=
  am_lt s0 (fun v1 => if v1 = 0 then
    (some ((0 : Int32), I, L))
    else
    (am_ck ((a1 * (75 : Int32)) + a2) 5625 (am_lt (I 67 (((a1 * (75 : Int32)) + a2)).toNatClampNeg) (fun v2 => some (v2, I, L)))))

set_option maxRecDepth 100000 in
set_option maxHeartbeats 4000000 in
theorem tX0_settled_t_b29 {x : am_X} (n d : Nat) (hc : am_ok x cX0_settled yX0_settled 4 (some .int) (d + 1) 0 0) {r : Int32} {I' : am_I} {L' : am_L} (s0 : Int32) (a1 : Int32) (a2 : Int32) (I : am_I) (L : am_L) (hf : fX0_settled_t_b29 n d s0 a1 a2 I L = some (r, I', L')) : am_J x (fun S => S = (some (.int r), (KC true), (RC true), I', L')) 29 [some (.ref 51), some (.int a1), some (.int a2), none] [.int s0] (KC true) (RC true) I L 0 0 := by
  unfold fX0_settled_t_b29 at hf
  refine j_istore_n hc dX0_settled_29 (Nat.le_of_ble_eq_true rfl) hf (fun v1 hf => ?_)
  refine j_aload_n hc dX0_settled_30 rfl ?_
  refine j_getR (u := 67) hc dX0_settled_31 (fgC_X0_32_51 _) rC_51_6t ?_
  refine j_ifnullR hc dX0_settled_34 ?_
  refine j_iload_n hc dX0_settled_37 rfl ?_
  refine j_if_eq (tgt := 55) hc dX0_settled_38 rfl hf (fun hf => ?_) (fun hf => ?_)
  · refine j_iconst (v := (0 : Int32)) hc dX0_settled_55 ci_0 ?_
    exact j_ireturn hc dX0_settled_56 rfl rfl hf
  · refine j_aload_n hc dX0_settled_41 rfl ?_
    refine j_getR (u := 67) hc dX0_settled_42 (fgC_X0_32_51 _) rC_51_6t ?_
    refine j_iload_n hc dX0_settled_45 rfl ?_
    refine j_bipush (v := (75 : Int32)) hc dX0_settled_46 cb_75 ?_
    refine j_imul hc dX0_settled_48 ?_
    refine j_iload_n hc dX0_settled_49 rfl ?_
    refine j_iadd hc dX0_settled_50 ?_
    refine j_iaload (n := 5625) hc dX0_settled_51 kC_67 hf (fun v2 hf => ?_)
    refine j_goto (tgt := 56) hc dX0_settled_52 rfl ?_
    exact j_ireturn hc dX0_settled_56 rfl rfl hf

set_option maxRecDepth 100000 in
def fX0_settled_t_b28 (n d : Nat) (a1 : Int32) (a2 : Int32) (I : am_I) (L : am_L) : Option (Int32 × am_I × am_L) :=
  fX0_settled_t_b29 n d (0 : Int32) a1 a2 I L

set_option maxRecDepth 100000 in
set_option maxHeartbeats 4000000 in
theorem tX0_settled_t_b28 {x : am_X} (n d : Nat) (hc : am_ok x cX0_settled yX0_settled 4 (some .int) (d + 1) 0 0) {r : Int32} {I' : am_I} {L' : am_L} (a1 : Int32) (a2 : Int32) (I : am_I) (L : am_L) (hf : fX0_settled_t_b28 n d a1 a2 I L = some (r, I', L')) : am_J x (fun S => S = (some (.int r), (KC true), (RC true), I', L')) 28 [some (.ref 51), some (.int a1), some (.int a2), none] [] (KC true) (RC true) I L 0 0 := by
  unfold fX0_settled_t_b28 at hf
  refine j_iconst (v := (0 : Int32)) hc dX0_settled_28 ci_0 ?_
  exact j_sub (tX0_settled_t_b29 n d hc _ _ _ _ _ hf) (And.intro rfl (And.intro rfl (And.intro rfl (trivial))))

set_option maxRecDepth 100000 in
def fX0_settled_t (n d : Nat) (a1 : Int32) (a2 : Int32) (I : am_I) (L : am_L) : Option (Int32 × am_I × am_L) :=
  if a1 ≤ 0 then
    (fX0_settled_t_b28 n d a1 a2 I L)
    else
    (if (I 51 10) < a1 then
      (fX0_settled_t_b28 n d a1 a2 I L)
      else
      (if a2 ≤ 0 then
        (fX0_settled_t_b28 n d a1 a2 I L)
        else
        (if (I 51 11) < a2 then
          (fX0_settled_t_b28 n d a1 a2 I L)
          else
          (fX0_settled_t_b29 n d (1 : Int32) a1 a2 I L))))

set_option maxRecDepth 100000 in
set_option maxHeartbeats 4000000 in
theorem tX0_settled_t {x : am_X} (n d : Nat) (hc : am_ok x cX0_settled yX0_settled 4 (some .int) (d + 1) 0 0) {r : Int32} {I' : am_I} {L' : am_L} (a1 : Int32) (a2 : Int32) (I : am_I) (L : am_L) (hf : fX0_settled_t n d a1 a2 I L = some (r, I', L')) : am_J x (fun S => S = (some (.int r), (KC true), (RC true), I', L')) 0 [some (.ref 51), some (.int a1), some (.int a2), none] [] (KC true) (RC true) I L 0 0 := by
  unfold fX0_settled_t at hf
  refine j_iload_n hc dX0_settled_0 rfl ?_
  refine j_if_le (tgt := 28) hc dX0_settled_1 rfl hf (fun hf => ?_) (fun hf => ?_)
  · exact j_sub (tX0_settled_t_b28 n d hc _ _ _ _ hf) (And.intro rfl (And.intro rfl (And.intro rfl (trivial))))
  · refine j_iload_n hc dX0_settled_4 rfl ?_
    refine j_aload_n hc dX0_settled_5 rfl ?_
    refine j_getI hc dX0_settled_6 (fgC_X0_45_51 _) ?_
    refine j_icmp_gt (tgt := 28) hc dX0_settled_9 rfl hf (fun hf => ?_) (fun hf => ?_)
    · exact j_sub (tX0_settled_t_b28 n d hc _ _ _ _ hf) (And.intro rfl (And.intro rfl (And.intro rfl (trivial))))
    · refine j_iload_n hc dX0_settled_12 rfl ?_
      refine j_if_le (tgt := 28) hc dX0_settled_13 rfl hf (fun hf => ?_) (fun hf => ?_)
      · exact j_sub (tX0_settled_t_b28 n d hc _ _ _ _ hf) (And.intro rfl (And.intro rfl (And.intro rfl (trivial))))
      · refine j_iload_n hc dX0_settled_16 rfl ?_
        refine j_aload_n hc dX0_settled_17 rfl ?_
        refine j_getI hc dX0_settled_18 (fgC_X0_48_51 _) ?_
        refine j_icmp_gt (tgt := 28) hc dX0_settled_21 rfl hf (fun hf => ?_) (fun hf => ?_)
        · exact j_sub (tX0_settled_t_b28 n d hc _ _ _ _ hf) (And.intro rfl (And.intro rfl (And.intro rfl (trivial))))
        · refine j_iconst (v := (1 : Int32)) hc dX0_settled_24 ci_1 ?_
          refine j_goto (tgt := 29) hc dX0_settled_25 rfl ?_
          exact j_sub (tX0_settled_t_b29 n d hc _ _ _ _ _ hf) (And.intro rfl (And.intro rfl (And.intro rfl (trivial))))

set_option maxRecDepth 100000 in
theorem qX0_settled_t (l : Launch) (n d : Nat) (a1 : Int32) (a2 : Int32) (I : am_I) (L : am_L) (r : Int32) (I' : am_I) (L' : am_L) (hf : fX0_settled_t n d a1 a2 I L = some (r, I', L')) : am_C l yX0_settled cX0_settled 4 (some .int) (d + 1) [.ref 51, .int a1, .int a2] (KC true) (RC true) I L (some (.int r)) I' L' := by
  exact am_intro (plainFor_of_name plX0) (fun _ _ => trivial) (Nat.le_of_ble_eq_true rfl) (fun x hl hc => by subst hl; exact j_sub (tX0_settled_t n d hc _ _ _ _ hf) (And.intro rfl (And.intro rfl (And.intro rfl (trivial)))))
set_option maxRecDepth 100000 in
def fX0_isWon_t (n d : Nat) (a1 : Int32) (a2 : Int32) (I : am_I) (L : am_L) : Option (Int32 × am_I × am_L) :=
  am_b3 (fX0_settled_t n d a1 a2 I L) (fun v1 I1 L1 => if v1 ≤ 0 then
    (some ((0 : Int32), I1, L1))
    else
    (some ((1 : Int32), I1, L1)))

set_option maxRecDepth 100000 in
set_option maxHeartbeats 4000000 in
theorem tX0_isWon_t {x : am_X} (n d : Nat) (hc : am_ok x cX0_isWon yX0_isWon 3 (some .boolean) (d + 2) 0 0) {r : Int32} {I' : am_I} {L' : am_L} (a1 : Int32) (a2 : Int32) (I : am_I) (L : am_L) (hf : fX0_isWon_t n d a1 a2 I L = some (r, I', L')) : am_J x (fun S => S = (some (.int r), (KC true), (RC true), I', L')) 0 [some (.ref 51), some (.int a1), some (.int a2)] [] (KC true) (RC true) I L 0 0 := by
  unfold fX0_isWon_t at hf
  refine j_aload_n hc dX0_isWon_0 rfl ?_
  refine j_iload_n hc dX0_isWon_1 rfl ?_
  refine j_iload_n hc dX0_isWon_2 rfl ?_
  refine j_callVI (t := 51) (As := [.int a1, .int a2]) hc dX0_isWon_3 kw_1128 mX0_settled (kC_51 _) clX0 rfl (by omega) (Nat.le_of_ble_eq_true rfl) (Nat.le_of_ble_eq_true rfl) ⟨Nat.le_refl _, Nat.le_refl _⟩ hf (fun v I' L' h => qX0_settled_t x.2.1 n d a1 a2 I L v I' L' h) (fun v1 I1 L1 hf => ?_)
  refine j_if_le (tgt := 13) hc dX0_isWon_6 rfl hf (fun hf => ?_) (fun hf => ?_)
  · refine j_iconst (v := (0 : Int32)) hc dX0_isWon_13 ci_0 ?_
    exact j_zret hc dX0_isWon_14 rfl rfl (Or.inl rfl) hf
  · refine j_iconst (v := (1 : Int32)) hc dX0_isWon_9 ci_1 ?_
    refine j_goto (tgt := 14) hc dX0_isWon_10 rfl ?_
    exact j_zret hc dX0_isWon_14 rfl rfl (Or.inr rfl) hf

set_option maxRecDepth 100000 in
theorem qX0_isWon_t (l : Launch) (n d : Nat) (a1 : Int32) (a2 : Int32) (I : am_I) (L : am_L) (r : Int32) (I' : am_I) (L' : am_L) (hf : fX0_isWon_t n d a1 a2 I L = some (r, I', L')) : am_C l yX0_isWon cX0_isWon 3 (some .boolean) (d + 2) [.ref 51, .int a1, .int a2] (KC true) (RC true) I L (some (.int r)) I' L' := by
  exact am_intro (plainFor_of_name plX0) (fun _ _ => trivial) (Nat.le_of_ble_eq_true rfl) (fun x hl hc => by subst hl; exact j_sub (tX0_isWon_t n d hc _ _ _ _ hf) (And.intro rfl (And.intro rfl (And.intro rfl (trivial)))))
set_option maxRecDepth 100000 in
def fX0_turns_t (n d : Nat) (a1 : Int32) (a2 : Int32) (I : am_I) (L : am_L) : Option (Int32 × am_I × am_L) :=
  am_b3 (fX0_settled_t n d a1 a2 I L) (fun v1 I1 L1 => am_b3 (fJ9_abs_0f7a4 n d (v1 >>> ((2 : Int32) &&& 31)) I1 L1) (fun v2 I2 L2 => some (((1000 : Int32) - v2), I2, L2)))

set_option maxRecDepth 100000 in
set_option maxHeartbeats 4000000 in
theorem tX0_turns_t {x : am_X} (n d : Nat) (hc : am_ok x cX0_turns yX0_turns 3 (some .int) (d + 2) 0 0) {r : Int32} {I' : am_I} {L' : am_L} (a1 : Int32) (a2 : Int32) (I : am_I) (L : am_L) (hf : fX0_turns_t n d a1 a2 I L = some (r, I', L')) : am_J x (fun S => S = (some (.int r), (KC true), (RC true), I', L')) 0 [some (.ref 51), some (.int a1), some (.int a2)] [] (KC true) (RC true) I L 0 0 := by
  unfold fX0_turns_t at hf
  refine j_sipush (v := (1000 : Int32)) hc dX0_turns_0 cs_1000 ?_
  refine j_aload_n hc dX0_turns_3 rfl ?_
  refine j_iload_n hc dX0_turns_4 rfl ?_
  refine j_iload_n hc dX0_turns_5 rfl ?_
  refine j_callVI (t := 51) (As := [.int a1, .int a2]) hc dX0_turns_6 kw_1128 mX0_settled (kC_51 _) clX0 rfl (by omega) (Nat.le_of_ble_eq_true rfl) (Nat.le_of_ble_eq_true rfl) ⟨Nat.le_refl _, Nat.le_refl _⟩ hf (fun v I' L' h => qX0_settled_t x.2.1 n d a1 a2 I L v I' L' h) (fun v1 I1 L1 hf => ?_)
  refine j_iconst (v := (2 : Int32)) hc dX0_turns_9 ci_2 ?_
  refine j_ishr hc dX0_turns_10 ?_
  refine j_callSI (As := [.int (v1 >>> ((2 : Int32) &&& 31))]) hc dX0_turns_11 kw_1136 mJ9_abs_0f7a4  rfl (by omega) (Nat.le_of_ble_eq_true rfl) (Nat.le_of_ble_eq_true rfl) ⟨Nat.le_refl _, Nat.le_refl _⟩ hf (fun v I' L' h => qJ9_abs_0f7a4 x.2.1 n d (v1 >>> ((2 : Int32) &&& 31)) I1 L1 v I' L' h) (fun v2 I2 L2 hf => ?_)
  refine j_isub hc dX0_turns_14 ?_
  exact j_ireturn hc dX0_turns_15 rfl rfl hf

set_option maxRecDepth 100000 in
theorem qX0_turns_t (l : Launch) (n d : Nat) (a1 : Int32) (a2 : Int32) (I : am_I) (L : am_L) (r : Int32) (I' : am_I) (L' : am_L) (hf : fX0_turns_t n d a1 a2 I L = some (r, I', L')) : am_C l yX0_turns cX0_turns 3 (some .int) (d + 2) [.ref 51, .int a1, .int a2] (KC true) (RC true) I L (some (.int r)) I' L' := by
  exact am_intro (plainFor_of_name plX0) (fun _ _ => trivial) (Nat.le_of_ble_eq_true rfl) (fun x hl hc => by subst hl; exact j_sub (tX0_turns_t n d hc _ _ _ _ hf) (And.intro rfl (And.intro rfl (And.intro rfl (trivial)))))
set_option maxRecDepth 100000 in
def fX0_deed_t (n d : Nat) (a1 : Int32) (a2 : Int32) (I : am_I) (L : am_L) : Option (Int32 × am_I × am_L) :=
  am_b3 (fX0_settled_t n d a1 a2 I L) (fun v1 I1 L1 => some (((2 : Int32) - (v1 &&& (3 : Int32))), I1, L1))

set_option maxRecDepth 100000 in
set_option maxHeartbeats 4000000 in
theorem tX0_deed_t {x : am_X} (n d : Nat) (hc : am_ok x cX0_deed yX0_deed 3 (some .int) (d + 2) 0 0) {r : Int32} {I' : am_I} {L' : am_L} (a1 : Int32) (a2 : Int32) (I : am_I) (L : am_L) (hf : fX0_deed_t n d a1 a2 I L = some (r, I', L')) : am_J x (fun S => S = (some (.int r), (KC true), (RC true), I', L')) 0 [some (.ref 51), some (.int a1), some (.int a2)] [] (KC true) (RC true) I L 0 0 := by
  unfold fX0_deed_t at hf
  refine j_iconst (v := (2 : Int32)) hc dX0_deed_0 ci_2 ?_
  refine j_aload_n hc dX0_deed_1 rfl ?_
  refine j_iload_n hc dX0_deed_2 rfl ?_
  refine j_iload_n hc dX0_deed_3 rfl ?_
  refine j_callVI (t := 51) (As := [.int a1, .int a2]) hc dX0_deed_4 kw_1128 mX0_settled (kC_51 _) clX0 rfl (by omega) (Nat.le_of_ble_eq_true rfl) (Nat.le_of_ble_eq_true rfl) ⟨Nat.le_refl _, Nat.le_refl _⟩ hf (fun v I' L' h => qX0_settled_t x.2.1 n d a1 a2 I L v I' L' h) (fun v1 I1 L1 hf => ?_)
  refine j_iconst (v := (3 : Int32)) hc dX0_deed_7 ci_3 ?_
  refine j_iand hc dX0_deed_8 ?_
  refine j_isub hc dX0_deed_9 ?_
  exact j_ireturn hc dX0_deed_10 rfl rfl hf

set_option maxRecDepth 100000 in
theorem qX0_deed_t (l : Launch) (n d : Nat) (a1 : Int32) (a2 : Int32) (I : am_I) (L : am_L) (r : Int32) (I' : am_I) (L' : am_L) (hf : fX0_deed_t n d a1 a2 I L = some (r, I', L')) : am_C l yX0_deed cX0_deed 3 (some .int) (d + 2) [.ref 51, .int a1, .int a2] (KC true) (RC true) I L (some (.int r)) I' L' := by
  exact am_intro (plainFor_of_name plX0) (fun _ _ => trivial) (Nat.le_of_ble_eq_true rfl) (fun x hl hc => by subst hl; exact j_sub (tX0_deed_t n d hc _ _ _ _ hf) (And.intro rfl (And.intro rfl (And.intro rfl (trivial)))))
set_option maxRecDepth 100000 in
def fX11_duel_t_b94 (n d : Nat) (s0 : Int32) (I : am_I) (L : am_L) : Option (Int32 × am_I × am_L) :=
  some (s0, I, L)

set_option maxRecDepth 100000 in
set_option maxHeartbeats 4000000 in
theorem tX11_duel_t_b94 {x : am_X} (n d : Nat) (hc : am_ok x cX11_duel yX11_duel 6 (some .int) (d + 6) 0 0) {r : Int32} {I' : am_I} {L' : am_L} (s0 : Int32) (I : am_I) (L : am_L) (hf : fX11_duel_t_b94 n d s0 I L = some (r, I', L')) : am_J x (fun S => S = (some (.int r), (KC true), (RC true), I', L')) 94 [none, none, none, none, none, none] [.int s0] (KC true) (RC true) I L 0 0 := by
  unfold fX11_duel_t_b94 at hf
  exact j_ireturn hc dX11_duel_94 rfl rfl hf

set_option maxRecDepth 100000 in
def fX11_duel_t_b80 (n d : Nat) (s0 : Int32) (I : am_I) (L : am_L) : Option (Int32 × am_I × am_L) :=
  fX11_duel_t_b94 n d s0 I L

set_option maxRecDepth 100000 in
set_option maxHeartbeats 4000000 in
theorem tX11_duel_t_b80 {x : am_X} (n d : Nat) (hc : am_ok x cX11_duel yX11_duel 6 (some .int) (d + 6) 0 0) {r : Int32} {I' : am_I} {L' : am_L} (s0 : Int32) (I : am_I) (L : am_L) (hf : fX11_duel_t_b80 n d s0 I L = some (r, I', L')) : am_J x (fun S => S = (some (.int r), (KC true), (RC true), I', L')) 80 [none, none, none, none, none, none] [.int s0] (KC true) (RC true) I L 0 0 := by
  unfold fX11_duel_t_b80 at hf
  refine j_goto (tgt := 94) hc dX11_duel_80 rfl ?_
  exact j_sub (tX11_duel_t_b94 n d hc _ _ _ hf) (trivial)

set_option maxRecDepth 100000 in
def fX11_duel_t_b55 (n d : Nat) (s0 : Int32) (I : am_I) (L : am_L) : Option (Int32 × am_I × am_L) :=
  if s0 = 0 then
    (some ((0 : Int32), I, L))
    else
    (some ((1 : Int32), I, L))

set_option maxRecDepth 100000 in
set_option maxHeartbeats 4000000 in
theorem tX11_duel_t_b55 {x : am_X} (n d : Nat) (hc : am_ok x cX11_duel yX11_duel 6 (some .int) (d + 6) 0 0) {r : Int32} {I' : am_I} {L' : am_L} (s0 : Int32) (I : am_I) (L : am_L) (hf : fX11_duel_t_b55 n d s0 I L = some (r, I', L')) : am_J x (fun S => S = (some (.int r), (KC true), (RC true), I', L')) 55 [none, none, none, none, none, none] [.int s0] (KC true) (RC true) I L 0 0 := by
  unfold fX11_duel_t_b55 at hf
  refine j_if_eq (tgt := 62) hc dX11_duel_55 rfl hf (fun hf => ?_) (fun hf => ?_)
  · refine j_iconst (v := (0 : Int32)) hc dX11_duel_62 ci_0 ?_
    exact j_ireturn hc dX11_duel_63 rfl rfl hf
  · refine j_iconst (v := (1 : Int32)) hc dX11_duel_58 ci_1 ?_
    refine j_goto (tgt := 63) hc dX11_duel_59 rfl ?_
    exact j_ireturn hc dX11_duel_63 rfl rfl hf

set_option maxRecDepth 100000 in
def fX11_duel_t_b26 (n d : Nat) (a1 : Int32) (a2 : Int32) (a3 : Int32) (I : am_I) (L : am_L) : Option (Int32 × am_I × am_L) :=
  am_b3 (fX11_placeOf n d a1 I L) (fun v1 I1 L1 => am_lt v1 (fun v2 => am_b3 (fX11_placeOf n d a2 I1 L1) (fun v3 I3 L3 => am_lt v3 (fun v4 => if a3 = 0 then
    (am_b3 (fX0_isWon_t n d v2 v4 I3 L3) (fun v7 I7 L7 => fX11_duel_t_b55 n d v7 I7 L7))
    else
    (if a3 = (1 : Int32) then
      (am_b3 (fX0_turns_t n d v2 v4 I3 L3) (fun v6 I6 L6 => fX11_duel_t_b80 n d v6 I6 L6))
      else
      (am_b3 (fX0_deed_t n d v2 v4 I3 L3) (fun v5 I5 L5 => fX11_duel_t_b94 n d v5 I5 L5)))))))

set_option maxRecDepth 100000 in
set_option maxHeartbeats 4000000 in
theorem tX11_duel_t_b26 {x : am_X} (n d : Nat) (hc : am_ok x cX11_duel yX11_duel 6 (some .int) (d + 6) 0 0) {r : Int32} {I' : am_I} {L' : am_L} (a1 : Int32) (a2 : Int32) (a3 : Int32) (I : am_I) (L : am_L) (hf : fX11_duel_t_b26 n d a1 a2 a3 I L = some (r, I', L')) : am_J x (fun S => S = (some (.int r), (KC true), (RC true), I', L')) 26 [some (.ref 0), some (.int a1), some (.int a2), some (.int a3), none, none] [] (KC true) (RC true) I L 0 0 := by
  unfold fX11_duel_t_b26 at hf
  refine j_aload_n hc dX11_duel_26 rfl ?_
  refine j_iload_n hc dX11_duel_27 rfl ?_
  refine j_callVI (t := 0) (As := [.int a1]) hc dX11_duel_28 kw_1094 mX11_placeOf (kC_0 _) clX11 rfl (by omega) (Nat.le_of_ble_eq_true rfl) (Nat.le_of_ble_eq_true rfl) ⟨Nat.le_refl _, Nat.le_refl _⟩ hf (fun v I' L' h => qX11_placeOf x.2.1 n d a1 I L v I' L' h) (fun v1 I1 L1 hf => ?_)
  refine j_istore hc dX11_duel_31 (Nat.le_of_ble_eq_true rfl) hf (fun v2 hf => ?_)
  refine j_aload_n hc dX11_duel_33 rfl ?_
  refine j_iload_n hc dX11_duel_34 rfl ?_
  refine j_callVI (t := 0) (As := [.int a2]) hc dX11_duel_35 kw_1094 mX11_placeOf (kC_0 _) clX11 rfl (by omega) (Nat.le_of_ble_eq_true rfl) (Nat.le_of_ble_eq_true rfl) ⟨Nat.le_refl _, Nat.le_refl _⟩ hf (fun v I' L' h => qX11_placeOf x.2.1 n d a2 I1 L1 v I' L' h) (fun v3 I3 L3 hf => ?_)
  refine j_istore hc dX11_duel_38 (Nat.le_of_ble_eq_true rfl) hf (fun v4 hf => ?_)
  refine j_iload_n hc dX11_duel_40 rfl ?_
  refine j_if_ne (tgt := 64) hc dX11_duel_41 rfl hf (fun hf => ?_) (fun hf => ?_)
  · refine j_iload_n hc dX11_duel_64 rfl ?_
    refine j_iconst (v := (1 : Int32)) hc dX11_duel_65 ci_1 ?_
    refine j_icmp_ne (tgt := 83) hc dX11_duel_66 rfl hf (fun hf => ?_) (fun hf => ?_)
    · refine j_aload_n hc dX11_duel_83 rfl ?_
      refine j_getR (u := 51) hc dX11_duel_84 (fgC_X11_77_0 _) (rC_0_9 _) ?_
      refine j_iload hc dX11_duel_87 rfl ?_
      refine j_iload hc dX11_duel_89 rfl ?_
      refine j_callVI (t := 51) (As := [.int v2, .int v4]) hc dX11_duel_91 kw_1139 mX0_deed (kC_51 _) clX0 rfl (by omega) (Nat.le_of_ble_eq_true rfl) (Nat.le_of_ble_eq_true rfl) ⟨Nat.le_refl _, Nat.le_refl _⟩ hf (fun v I' L' h => qX0_deed_t x.2.1 n d v2 v4 I3 L3 v I' L' h) (fun v5 I5 L5 hf => ?_)
      exact j_sub (tX11_duel_t_b94 n d hc _ _ _ hf) (trivial)
    · refine j_aload_n hc dX11_duel_69 rfl ?_
      refine j_getR (u := 51) hc dX11_duel_70 (fgC_X11_77_0 _) (rC_0_9 _) ?_
      refine j_iload hc dX11_duel_73 rfl ?_
      refine j_iload hc dX11_duel_75 rfl ?_
      refine j_callVI (t := 51) (As := [.int v2, .int v4]) hc dX11_duel_77 kw_1132 mX0_turns (kC_51 _) clX0 rfl (by omega) (Nat.le_of_ble_eq_true rfl) (Nat.le_of_ble_eq_true rfl) ⟨Nat.le_refl _, Nat.le_refl _⟩ hf (fun v I' L' h => qX0_turns_t x.2.1 n d v2 v4 I3 L3 v I' L' h) (fun v6 I6 L6 hf => ?_)
      exact j_sub (tX11_duel_t_b80 n d hc _ _ _ hf) (trivial)
  · refine j_aload_n hc dX11_duel_44 rfl ?_
    refine j_getR (u := 51) hc dX11_duel_45 (fgC_X11_77_0 _) (rC_0_9 _) ?_
    refine j_iload hc dX11_duel_48 rfl ?_
    refine j_iload hc dX11_duel_50 rfl ?_
    refine j_callVI (t := 51) (As := [.int v2, .int v4]) hc dX11_duel_52 kw_1124 mX0_isWon (kC_51 _) clX0 rfl (by omega) (Nat.le_of_ble_eq_true rfl) (Nat.le_of_ble_eq_true rfl) ⟨Nat.le_refl _, Nat.le_refl _⟩ hf (fun v I' L' h => qX0_isWon_t x.2.1 n d v2 v4 I3 L3 v I' L' h) (fun v7 I7 L7 hf => ?_)
    exact j_sub (tX11_duel_t_b55 n d hc _ _ _ hf) (trivial)

set_option maxRecDepth 100000 in
def fX11_duel_t (n d : Nat) (a1 : Int32) (a2 : Int32) (a3 : Int32) (I : am_I) (L : am_L) : Option (Int32 × am_I × am_L) :=
  am_b3 (fX11_mayDuel n d a1 a2 I L) (fun v1 I1 L1 => if v1 = 0 then
    (some ((-1 : Int32), I1, L1))
    else
    (if a3 < 0 then
      (some ((-1 : Int32), I1, L1))
      else
      (if a3 ≤ (2 : Int32) then
        (am_b2 (fX11_makeDuelReady_t n d a1 a2 I1 L1) (fun I2 L2 => fX11_duel_t_b26 n d a1 a2 a3 I2 L2))
        else
        (some ((-1 : Int32), I1, L1)))))

set_option maxRecDepth 100000 in
set_option maxHeartbeats 4000000 in
theorem tX11_duel_t {x : am_X} (n d : Nat) (hc : am_ok x cX11_duel yX11_duel 6 (some .int) (d + 6) 0 0) {r : Int32} {I' : am_I} {L' : am_L} (a1 : Int32) (a2 : Int32) (a3 : Int32) (I : am_I) (L : am_L) (hf : fX11_duel_t n d a1 a2 a3 I L = some (r, I', L')) : am_J x (fun S => S = (some (.int r), (KC true), (RC true), I', L')) 0 [some (.ref 0), some (.int a1), some (.int a2), some (.int a3), none, none] [] (KC true) (RC true) I L 0 0 := by
  unfold fX11_duel_t at hf
  refine j_aload_n hc dX11_duel_0 rfl ?_
  refine j_iload_n hc dX11_duel_1 rfl ?_
  refine j_iload_n hc dX11_duel_2 rfl ?_
  refine j_callVI (t := 0) (As := [.int a1, .int a2]) hc dX11_duel_3 kw_1082 mX11_mayDuel (kC_0 _) clX11 rfl (by omega) (Nat.le_of_ble_eq_true rfl) (Nat.le_of_ble_eq_true rfl) ⟨Nat.le_refl _, Nat.le_refl _⟩ hf (fun v I' L' h => qX11_mayDuel x.2.1 n d a1 a2 I L v I' L' h) (fun v1 I1 L1 hf => ?_)
  refine j_if_eq (tgt := 18) hc dX11_duel_6 rfl hf (fun hf => ?_) (fun hf => ?_)
  · refine j_iconst (v := (-1 : Int32)) hc dX11_duel_18 ci_m1 ?_
    exact j_ireturn hc dX11_duel_19 rfl rfl hf
  · refine j_iload_n hc dX11_duel_9 rfl ?_
    refine j_if_lt (tgt := 18) hc dX11_duel_10 rfl hf (fun hf => ?_) (fun hf => ?_)
    · refine j_iconst (v := (-1 : Int32)) hc dX11_duel_18 ci_m1 ?_
      exact j_ireturn hc dX11_duel_19 rfl rfl hf
    · refine j_iload_n hc dX11_duel_13 rfl ?_
      refine j_iconst (v := (2 : Int32)) hc dX11_duel_14 ci_2 ?_
      refine j_icmp_le (tgt := 20) hc dX11_duel_15 rfl hf (fun hf => ?_) (fun hf => ?_)
      · refine j_aload_n hc dX11_duel_20 rfl ?_
        refine j_iload_n hc dX11_duel_21 rfl ?_
        refine j_iload_n hc dX11_duel_22 rfl ?_
        refine j_callVV (t := 0) (As := [.int a1, .int a2]) hc dX11_duel_23 kw_1086 mX11_makeDuelReady (kC_0 _) clX11 rfl (by omega) (Nat.le_of_ble_eq_true rfl) (Nat.le_of_ble_eq_true rfl) ⟨Nat.le_refl _, Nat.le_refl _⟩ hf (fun I' L' h => qX11_makeDuelReady_t x.2.1 n d a1 a2 I1 L1 I' L' h) (fun I2 L2 hf => ?_)
        exact j_sub (tX11_duel_t_b26 n d hc _ _ _ _ _ hf) (And.intro rfl (And.intro rfl (And.intro rfl (And.intro rfl (trivial)))))
      · refine j_iconst (v := (-1 : Int32)) hc dX11_duel_18 ci_m1 ?_
        exact j_ireturn hc dX11_duel_19 rfl rfl hf

set_option maxRecDepth 100000 in
theorem qX11_duel_t (l : Launch) (n d : Nat) (a1 : Int32) (a2 : Int32) (a3 : Int32) (I : am_I) (L : am_L) (r : Int32) (I' : am_I) (L' : am_L) (hf : fX11_duel_t n d a1 a2 a3 I L = some (r, I', L')) : am_C l yX11_duel cX11_duel 6 (some .int) (d + 6) [.ref 0, .int a1, .int a2, .int a3] (KC true) (RC true) I L (some (.int r)) I' L' := by
  exact am_intro (plainFor_of_name plX11) (fun _ _ => trivial) (Nat.le_of_ble_eq_true rfl) (fun x hl hc => by subst hl; exact j_sub (tX11_duel_t n d hc _ _ _ _ _ hf) (And.intro rfl (And.intro rfl (And.intro rfl (And.intro rfl (trivial))))))
set_option maxRecDepth 100000 in
def fX11_countWinsOfSpeeds_t_b173 (n d : Nat) (k3 : Int32 → Int32 → Int32 → Int32 → am_I → am_L → Option (am_I × am_L)) (a1 : Int32) (a2 : Int32) (a3 : Int32) (a4 : Int32) (I : am_I) (L : am_L) : Option (am_I × am_L) :=
  am_lt (a4 + (1 : Int32)) (fun v1 => k3 a1 a2 a3 v1 I L)

set_option maxRecDepth 100000 in
set_option maxHeartbeats 4000000 in
theorem tX11_countWinsOfSpeeds_t_b173 {x : am_X} (n d : Nat) (hc : am_ok x cX11_countWinsOfSpeeds yX11_countWinsOfSpeeds 7 none (d + 6) 0 0) {I' : am_I} {L' : am_L} (k3 : Int32 → Int32 → Int32 → Int32 → am_I → am_L → Option (am_I × am_L)) (hk3 : ∀ (a1 : Int32) (a2 : Int32) (a3 : Int32) (a4 : Int32) (I : am_I) (L : am_L), k3 a1 a2 a3 a4 I L = some (I', L') → am_J x (fun S => S = (none, (KC true), (RC true), I', L')) 3 [some (.ref 0), some (.int a1), some (.int a2), some (.int a3), some (.int a4), none, none] [] (KC true) (RC true) I L 0 0) (a1 : Int32) (a2 : Int32) (a3 : Int32) (a4 : Int32) (I : am_I) (L : am_L) (hf : fX11_countWinsOfSpeeds_t_b173 n d k3 a1 a2 a3 a4 I L = some (I', L')) : am_J x (fun S => S = (none, (KC true), (RC true), I', L')) 173 [some (.ref 0), some (.int a1), some (.int a2), some (.int a3), some (.int a4), none, none] [] (KC true) (RC true) I L 0 0 := by
  unfold fX11_countWinsOfSpeeds_t_b173 at hf
  refine j_iinc (w := (1 : Int32)) hc dX11_countWinsOfSpeeds_173 rfl ci_1 (Nat.le_of_ble_eq_true rfl) hf (fun v1 hf => ?_)
  refine j_goto (tgt := 3) hc dX11_countWinsOfSpeeds_176 rfl ?_
  exact j_sub (hk3 _ _ _ _ _ _ hf) (And.intro rfl (And.intro rfl (And.intro rfl (And.intro rfl (And.intro rfl (trivial))))))

set_option maxRecDepth 100000 in
def fX11_countWinsOfSpeeds_t_b167 (n d : Nat) (k3 : Int32 → Int32 → Int32 → Int32 → am_I → am_L → Option (am_I × am_L)) (k65 : Int32 → Int32 → Int32 → Int32 → Int32 → Int32 → am_I → am_L → Option (am_I × am_L)) (a1 : Int32) (a2 : Int32) (a3 : Int32) (a4 : Int32) (a5 : Int32) (a6 : Int32) (I : am_I) (L : am_L) : Option (am_I × am_L) :=
  am_lt (a6 + (1 : Int32)) (fun v1 => k65 a1 a2 a3 a4 a5 v1 I L)

set_option maxRecDepth 100000 in
set_option maxHeartbeats 4000000 in
theorem tX11_countWinsOfSpeeds_t_b167 {x : am_X} (n d : Nat) (hc : am_ok x cX11_countWinsOfSpeeds yX11_countWinsOfSpeeds 7 none (d + 6) 0 0) {I' : am_I} {L' : am_L} (k3 : Int32 → Int32 → Int32 → Int32 → am_I → am_L → Option (am_I × am_L)) (k65 : Int32 → Int32 → Int32 → Int32 → Int32 → Int32 → am_I → am_L → Option (am_I × am_L)) (hk3 : ∀ (a1 : Int32) (a2 : Int32) (a3 : Int32) (a4 : Int32) (I : am_I) (L : am_L), k3 a1 a2 a3 a4 I L = some (I', L') → am_J x (fun S => S = (none, (KC true), (RC true), I', L')) 3 [some (.ref 0), some (.int a1), some (.int a2), some (.int a3), some (.int a4), none, none] [] (KC true) (RC true) I L 0 0) (hk65 : ∀ (a1 : Int32) (a2 : Int32) (a3 : Int32) (a4 : Int32) (a5 : Int32) (a6 : Int32) (I : am_I) (L : am_L), k65 a1 a2 a3 a4 a5 a6 I L = some (I', L') → am_J x (fun S => S = (none, (KC true), (RC true), I', L')) 65 [some (.ref 0), some (.int a1), some (.int a2), some (.int a3), some (.int a4), some (.int a5), some (.int a6)] [] (KC true) (RC true) I L 0 0) (a1 : Int32) (a2 : Int32) (a3 : Int32) (a4 : Int32) (a5 : Int32) (a6 : Int32) (I : am_I) (L : am_L) (hf : fX11_countWinsOfSpeeds_t_b167 n d k3 k65 a1 a2 a3 a4 a5 a6 I L = some (I', L')) : am_J x (fun S => S = (none, (KC true), (RC true), I', L')) 167 [some (.ref 0), some (.int a1), some (.int a2), some (.int a3), some (.int a4), some (.int a5), some (.int a6)] [] (KC true) (RC true) I L 0 0 := by
  unfold fX11_countWinsOfSpeeds_t_b167 at hf
  refine j_iinc (w := (1 : Int32)) hc dX11_countWinsOfSpeeds_167 rfl ci_1 (Nat.le_of_ble_eq_true rfl) hf (fun v1 hf => ?_)
  refine j_goto (tgt := 65) hc dX11_countWinsOfSpeeds_170 rfl ?_
  exact j_sub (hk65 _ _ _ _ _ _ _ _ hf) (And.intro rfl (And.intro rfl (And.intro rfl (And.intro rfl (And.intro rfl (And.intro rfl (And.intro rfl (trivial))))))))

set_option maxRecDepth 100000 in
def fX11_countWinsOfSpeeds_t_b165 (n d : Nat) (k3 : Int32 → Int32 → Int32 → Int32 → am_I → am_L → Option (am_I × am_L)) (k65 : Int32 → Int32 → Int32 → Int32 → Int32 → Int32 → am_I → am_L → Option (am_I × am_L)) (s1 : Int32) (s2 : Int32) (s3 : Int32) (a1 : Int32) (a2 : Int32) (a3 : Int32) (a4 : Int32) (a5 : Int32) (a6 : Int32) (I : am_I) (L : am_L) : Option (am_I × am_L) :=
  am_ck s1 8 (am_lt (am_up I 66 (s1).toNatClampNeg (s2 + s3)) (fun I1 => fX11_countWinsOfSpeeds_t_b167 n d k3 k65 a1 a2 a3 a4 a5 a6 I1 L))

set_option maxRecDepth 100000 in
set_option maxHeartbeats 4000000 in
theorem tX11_countWinsOfSpeeds_t_b165 {x : am_X} (n d : Nat) (hc : am_ok x cX11_countWinsOfSpeeds yX11_countWinsOfSpeeds 7 none (d + 6) 0 0) {I' : am_I} {L' : am_L} (k3 : Int32 → Int32 → Int32 → Int32 → am_I → am_L → Option (am_I × am_L)) (k65 : Int32 → Int32 → Int32 → Int32 → Int32 → Int32 → am_I → am_L → Option (am_I × am_L)) (hk3 : ∀ (a1 : Int32) (a2 : Int32) (a3 : Int32) (a4 : Int32) (I : am_I) (L : am_L), k3 a1 a2 a3 a4 I L = some (I', L') → am_J x (fun S => S = (none, (KC true), (RC true), I', L')) 3 [some (.ref 0), some (.int a1), some (.int a2), some (.int a3), some (.int a4), none, none] [] (KC true) (RC true) I L 0 0) (hk65 : ∀ (a1 : Int32) (a2 : Int32) (a3 : Int32) (a4 : Int32) (a5 : Int32) (a6 : Int32) (I : am_I) (L : am_L), k65 a1 a2 a3 a4 a5 a6 I L = some (I', L') → am_J x (fun S => S = (none, (KC true), (RC true), I', L')) 65 [some (.ref 0), some (.int a1), some (.int a2), some (.int a3), some (.int a4), some (.int a5), some (.int a6)] [] (KC true) (RC true) I L 0 0) (s1 : Int32) (s2 : Int32) (s3 : Int32) (a1 : Int32) (a2 : Int32) (a3 : Int32) (a4 : Int32) (a5 : Int32) (a6 : Int32) (I : am_I) (L : am_L) (hf : fX11_countWinsOfSpeeds_t_b165 n d k3 k65 s1 s2 s3 a1 a2 a3 a4 a5 a6 I L = some (I', L')) : am_J x (fun S => S = (none, (KC true), (RC true), I', L')) 165 [some (.ref 0), some (.int a1), some (.int a2), some (.int a3), some (.int a4), some (.int a5), some (.int a6)] [.int s3, .int s2, .int s1, .ref 66] (KC true) (RC true) I L 0 0 := by
  unfold fX11_countWinsOfSpeeds_t_b165 at hf
  refine j_iadd hc dX11_countWinsOfSpeeds_165 ?_
  refine j_iastore (n := 8) hc dX11_countWinsOfSpeeds_166 (kC_66 _) hf (fun I1 hf => ?_)
  exact j_sub (tX11_countWinsOfSpeeds_t_b167 n d hc k3 k65 hk3 hk65 _ _ _ _ _ _ _ _ hf) (And.intro rfl (And.intro rfl (And.intro rfl (And.intro rfl (And.intro rfl (And.intro rfl (And.intro rfl (trivial))))))))

set_option maxRecDepth 100000 in
def fX11_countWinsOfSpeeds_t_b157 (n d : Nat) (k3 : Int32 → Int32 → Int32 → Int32 → am_I → am_L → Option (am_I × am_L)) (k65 : Int32 → Int32 → Int32 → Int32 → Int32 → Int32 → am_I → am_L → Option (am_I × am_L)) (s1 : Int32) (s2 : Int32) (s3 : Int32) (a1 : Int32) (a2 : Int32) (a3 : Int32) (a4 : Int32) (a5 : Int32) (a6 : Int32) (I : am_I) (L : am_L) : Option (am_I × am_L) :=
  if s3 = 0 then
    (fX11_countWinsOfSpeeds_t_b165 n d k3 k65 s1 s2 (0 : Int32) a1 a2 a3 a4 a5 a6 I L)
    else
    (fX11_countWinsOfSpeeds_t_b165 n d k3 k65 s1 s2 (1 : Int32) a1 a2 a3 a4 a5 a6 I L)

set_option maxRecDepth 100000 in
set_option maxHeartbeats 4000000 in
theorem tX11_countWinsOfSpeeds_t_b157 {x : am_X} (n d : Nat) (hc : am_ok x cX11_countWinsOfSpeeds yX11_countWinsOfSpeeds 7 none (d + 6) 0 0) {I' : am_I} {L' : am_L} (k3 : Int32 → Int32 → Int32 → Int32 → am_I → am_L → Option (am_I × am_L)) (k65 : Int32 → Int32 → Int32 → Int32 → Int32 → Int32 → am_I → am_L → Option (am_I × am_L)) (hk3 : ∀ (a1 : Int32) (a2 : Int32) (a3 : Int32) (a4 : Int32) (I : am_I) (L : am_L), k3 a1 a2 a3 a4 I L = some (I', L') → am_J x (fun S => S = (none, (KC true), (RC true), I', L')) 3 [some (.ref 0), some (.int a1), some (.int a2), some (.int a3), some (.int a4), none, none] [] (KC true) (RC true) I L 0 0) (hk65 : ∀ (a1 : Int32) (a2 : Int32) (a3 : Int32) (a4 : Int32) (a5 : Int32) (a6 : Int32) (I : am_I) (L : am_L), k65 a1 a2 a3 a4 a5 a6 I L = some (I', L') → am_J x (fun S => S = (none, (KC true), (RC true), I', L')) 65 [some (.ref 0), some (.int a1), some (.int a2), some (.int a3), some (.int a4), some (.int a5), some (.int a6)] [] (KC true) (RC true) I L 0 0) (s1 : Int32) (s2 : Int32) (s3 : Int32) (a1 : Int32) (a2 : Int32) (a3 : Int32) (a4 : Int32) (a5 : Int32) (a6 : Int32) (I : am_I) (L : am_L) (hf : fX11_countWinsOfSpeeds_t_b157 n d k3 k65 s1 s2 s3 a1 a2 a3 a4 a5 a6 I L = some (I', L')) : am_J x (fun S => S = (none, (KC true), (RC true), I', L')) 157 [some (.ref 0), some (.int a1), some (.int a2), some (.int a3), some (.int a4), some (.int a5), some (.int a6)] [.int s3, .int s2, .int s1, .ref 66] (KC true) (RC true) I L 0 0 := by
  unfold fX11_countWinsOfSpeeds_t_b157 at hf
  refine j_if_eq (tgt := 164) hc dX11_countWinsOfSpeeds_157 rfl hf (fun hf => ?_) (fun hf => ?_)
  · refine j_iconst (v := (0 : Int32)) hc dX11_countWinsOfSpeeds_164 ci_0 ?_
    exact j_sub (tX11_countWinsOfSpeeds_t_b165 n d hc k3 k65 hk3 hk65 _ _ _ _ _ _ _ _ _ _ _ hf) (And.intro rfl (And.intro rfl (And.intro rfl (And.intro rfl (And.intro rfl (And.intro rfl (And.intro rfl (trivial))))))))
  · refine j_iconst (v := (1 : Int32)) hc dX11_countWinsOfSpeeds_160 ci_1 ?_
    refine j_goto (tgt := 165) hc dX11_countWinsOfSpeeds_161 rfl ?_
    exact j_sub (tX11_countWinsOfSpeeds_t_b165 n d hc k3 k65 hk3 hk65 _ _ _ _ _ _ _ _ _ _ _ hf) (And.intro rfl (And.intro rfl (And.intro rfl (And.intro rfl (And.intro rfl (And.intro rfl (And.intro rfl (trivial))))))))

set_option maxRecDepth 100000 in
def fX11_countWinsOfSpeeds_t_b130 (n d : Nat) (k3 : Int32 → Int32 → Int32 → Int32 → am_I → am_L → Option (am_I × am_L)) (k65 : Int32 → Int32 → Int32 → Int32 → Int32 → Int32 → am_I → am_L → Option (am_I × am_L)) (a1 : Int32) (a2 : Int32) (a3 : Int32) (a4 : Int32) (a5 : Int32) (a6 : Int32) (I : am_I) (L : am_L) : Option (am_I × am_L) :=
  am_ck a4 8 (am_lt (I 66 (a4).toNatClampNeg) (fun v1 => am_b3 (fX11_placeOf n d a4 I L) (fun v2 I2 L2 => am_b3 (fX11_placeOf n d a6 I2 L2) (fun v3 I3 L3 => am_b3 (fX0_isWon_t n d v2 v3 I3 L3) (fun v4 I4 L4 => fX11_countWinsOfSpeeds_t_b157 n d k3 k65 a4 v1 v4 a1 a2 a3 a4 a5 a6 I4 L4)))))

set_option maxRecDepth 100000 in
set_option maxHeartbeats 4000000 in
theorem tX11_countWinsOfSpeeds_t_b130 {x : am_X} (n d : Nat) (hc : am_ok x cX11_countWinsOfSpeeds yX11_countWinsOfSpeeds 7 none (d + 6) 0 0) {I' : am_I} {L' : am_L} (k3 : Int32 → Int32 → Int32 → Int32 → am_I → am_L → Option (am_I × am_L)) (k65 : Int32 → Int32 → Int32 → Int32 → Int32 → Int32 → am_I → am_L → Option (am_I × am_L)) (hk3 : ∀ (a1 : Int32) (a2 : Int32) (a3 : Int32) (a4 : Int32) (I : am_I) (L : am_L), k3 a1 a2 a3 a4 I L = some (I', L') → am_J x (fun S => S = (none, (KC true), (RC true), I', L')) 3 [some (.ref 0), some (.int a1), some (.int a2), some (.int a3), some (.int a4), none, none] [] (KC true) (RC true) I L 0 0) (hk65 : ∀ (a1 : Int32) (a2 : Int32) (a3 : Int32) (a4 : Int32) (a5 : Int32) (a6 : Int32) (I : am_I) (L : am_L), k65 a1 a2 a3 a4 a5 a6 I L = some (I', L') → am_J x (fun S => S = (none, (KC true), (RC true), I', L')) 65 [some (.ref 0), some (.int a1), some (.int a2), some (.int a3), some (.int a4), some (.int a5), some (.int a6)] [] (KC true) (RC true) I L 0 0) (a1 : Int32) (a2 : Int32) (a3 : Int32) (a4 : Int32) (a5 : Int32) (a6 : Int32) (I : am_I) (L : am_L) (hf : fX11_countWinsOfSpeeds_t_b130 n d k3 k65 a1 a2 a3 a4 a5 a6 I L = some (I', L')) : am_J x (fun S => S = (none, (KC true), (RC true), I', L')) 130 [some (.ref 0), some (.int a1), some (.int a2), some (.int a3), some (.int a4), some (.int a5), some (.int a6)] [] (KC true) (RC true) I L 0 0 := by
  unfold fX11_countWinsOfSpeeds_t_b130 at hf
  refine j_aload_n hc dX11_countWinsOfSpeeds_130 rfl ?_
  refine j_getR (u := 66) hc dX11_countWinsOfSpeeds_131 (fgC_X11_101_0 _) (rC_0_13 _) ?_
  refine j_iload hc dX11_countWinsOfSpeeds_134 rfl ?_
  refine j_dup2 hc dX11_countWinsOfSpeeds_136 rfl rfl ?_
  refine j_iaload (n := 8) hc dX11_countWinsOfSpeeds_137 (kC_66 _) hf (fun v1 hf => ?_)
  refine j_aload_n hc dX11_countWinsOfSpeeds_138 rfl ?_
  refine j_getR (u := 51) hc dX11_countWinsOfSpeeds_139 (fgC_X11_77_0 _) (rC_0_9 _) ?_
  refine j_aload_n hc dX11_countWinsOfSpeeds_142 rfl ?_
  refine j_iload hc dX11_countWinsOfSpeeds_143 rfl ?_
  refine j_callVI (t := 0) (As := [.int a4]) hc dX11_countWinsOfSpeeds_145 kw_1094 mX11_placeOf (kC_0 _) clX11 rfl (by omega) (Nat.le_of_ble_eq_true rfl) (Nat.le_of_ble_eq_true rfl) ⟨Nat.le_refl _, Nat.le_refl _⟩ hf (fun v I' L' h => qX11_placeOf x.2.1 n d a4 I L v I' L' h) (fun v2 I2 L2 hf => ?_)
  refine j_aload_n hc dX11_countWinsOfSpeeds_148 rfl ?_
  refine j_iload hc dX11_countWinsOfSpeeds_149 rfl ?_
  refine j_callVI (t := 0) (As := [.int a6]) hc dX11_countWinsOfSpeeds_151 kw_1094 mX11_placeOf (kC_0 _) clX11 rfl (by omega) (Nat.le_of_ble_eq_true rfl) (Nat.le_of_ble_eq_true rfl) ⟨Nat.le_refl _, Nat.le_refl _⟩ hf (fun v I' L' h => qX11_placeOf x.2.1 n d a6 I2 L2 v I' L' h) (fun v3 I3 L3 hf => ?_)
  refine j_callVI (t := 51) (As := [.int v2, .int v3]) hc dX11_countWinsOfSpeeds_154 kw_1124 mX0_isWon (kC_51 _) clX0 rfl (by omega) (Nat.le_of_ble_eq_true rfl) (Nat.le_of_ble_eq_true rfl) ⟨Nat.le_refl _, Nat.le_refl _⟩ hf (fun v I' L' h => qX0_isWon_t x.2.1 n d v2 v3 I3 L3 v I' L' h) (fun v4 I4 L4 hf => ?_)
  exact j_sub (tX11_countWinsOfSpeeds_t_b157 n d hc k3 k65 hk3 hk65 _ _ _ _ _ _ _ _ _ _ _ hf) (And.intro rfl (And.intro rfl (And.intro rfl (And.intro rfl (And.intro rfl (And.intro rfl (And.intro rfl (trivial))))))))

set_option maxRecDepth 100000 in
def fX11_countWinsOfSpeeds_t_b65w (n d : Nat) (k3 : Int32 → Int32 → Int32 → Int32 → am_I → am_L → Option (am_I × am_L)) (k65 : Int32 → Int32 → Int32 → Int32 → Int32 → Int32 → am_I → am_L → Option (am_I × am_L)) (a1 : Int32) (a2 : Int32) (a3 : Int32) (a4 : Int32) (a5 : Int32) (a6 : Int32) (I : am_I) (L : am_L) : Option (am_I × am_L) :=
  if a5 = 0 then
    (fX11_countWinsOfSpeeds_t_b173 n d k3 a1 a2 a3 a4 I L)
    else
    (if (I 3 0) ≤ a6 then
      (fX11_countWinsOfSpeeds_t_b173 n d k3 a1 a2 a3 a4 I L)
      else
      (am_ck a6 8 (am_lt (I 4 (a6).toNatClampNeg) (fun v1 => if v1 = a1 then
        (fX11_countWinsOfSpeeds_t_b167 n d k3 k65 a1 a2 a3 a4 a5 a6 I L)
        else
        (am_ck a6 8 (am_lt (I 6 (a6).toNatClampNeg) (fun v2 => if v2 = a3 then
          (am_b3 (fX7_canGo n d a6 I L) (fun v3 I3 L3 => if v3 = 0 then
            (fX11_countWinsOfSpeeds_t_b167 n d k3 k65 a1 a2 a3 a4 a5 a6 I3 L3)
            else
            (am_b2 (fX11_makeDuelReady_t n d a4 a6 I3 L3) (fun I4 L4 => fX11_countWinsOfSpeeds_t_b130 n d k3 k65 a1 a2 a3 a4 a5 a6 I4 L4))))
          else
          (fX11_countWinsOfSpeeds_t_b167 n d k3 k65 a1 a2 a3 a4 a5 a6 I L))))))))

set_option maxRecDepth 100000 in
set_option maxHeartbeats 4000000 in
theorem tX11_countWinsOfSpeeds_t_b65w {x : am_X} (n d : Nat) (hc : am_ok x cX11_countWinsOfSpeeds yX11_countWinsOfSpeeds 7 none (d + 6) 0 0) {I' : am_I} {L' : am_L} (k3 : Int32 → Int32 → Int32 → Int32 → am_I → am_L → Option (am_I × am_L)) (k65 : Int32 → Int32 → Int32 → Int32 → Int32 → Int32 → am_I → am_L → Option (am_I × am_L)) (hk3 : ∀ (a1 : Int32) (a2 : Int32) (a3 : Int32) (a4 : Int32) (I : am_I) (L : am_L), k3 a1 a2 a3 a4 I L = some (I', L') → am_J x (fun S => S = (none, (KC true), (RC true), I', L')) 3 [some (.ref 0), some (.int a1), some (.int a2), some (.int a3), some (.int a4), none, none] [] (KC true) (RC true) I L 0 0) (hk65 : ∀ (a1 : Int32) (a2 : Int32) (a3 : Int32) (a4 : Int32) (a5 : Int32) (a6 : Int32) (I : am_I) (L : am_L), k65 a1 a2 a3 a4 a5 a6 I L = some (I', L') → am_J x (fun S => S = (none, (KC true), (RC true), I', L')) 65 [some (.ref 0), some (.int a1), some (.int a2), some (.int a3), some (.int a4), some (.int a5), some (.int a6)] [] (KC true) (RC true) I L 0 0) (a1 : Int32) (a2 : Int32) (a3 : Int32) (a4 : Int32) (a5 : Int32) (a6 : Int32) (I : am_I) (L : am_L) (hf : fX11_countWinsOfSpeeds_t_b65w n d k3 k65 a1 a2 a3 a4 a5 a6 I L = some (I', L')) : am_J x (fun S => S = (none, (KC true), (RC true), I', L')) 65 [some (.ref 0), some (.int a1), some (.int a2), some (.int a3), some (.int a4), some (.int a5), some (.int a6)] [] (KC true) (RC true) I L 0 0 := by
  unfold fX11_countWinsOfSpeeds_t_b65w at hf
  refine j_iload hc dX11_countWinsOfSpeeds_65 rfl ?_
  refine j_if_eq (tgt := 173) hc dX11_countWinsOfSpeeds_67 rfl hf (fun hf => ?_) (fun hf => ?_)
  · exact j_sub (tX11_countWinsOfSpeeds_t_b173 n d hc k3 hk3 _ _ _ _ _ _ hf) (And.intro rfl (And.intro rfl (And.intro rfl (And.intro rfl (And.intro rfl (trivial))))))
  · refine j_iload hc dX11_countWinsOfSpeeds_70 rfl ?_
    refine j_aload_n hc dX11_countWinsOfSpeeds_72 rfl ?_
    refine j_getR (u := 3) hc dX11_countWinsOfSpeeds_73 (fgC_X11_19_0 _) (rC_0_1 _) ?_
    refine j_getI hc dX11_countWinsOfSpeeds_76 (fgC_X11_151_3 _) ?_
    refine j_icmp_ge (tgt := 173) hc dX11_countWinsOfSpeeds_79 rfl hf (fun hf => ?_) (fun hf => ?_)
    · exact j_sub (tX11_countWinsOfSpeeds_t_b173 n d hc k3 hk3 _ _ _ _ _ _ hf) (And.intro rfl (And.intro rfl (And.intro rfl (And.intro rfl (And.intro rfl (trivial))))))
    · refine j_aload_n hc dX11_countWinsOfSpeeds_82 rfl ?_
      refine j_getR (u := 3) hc dX11_countWinsOfSpeeds_83 (fgC_X11_19_0 _) (rC_0_1 _) ?_
      refine j_getR (u := 4) hc dX11_countWinsOfSpeeds_86 (fgC_X11_165_3 _) (rC_3_5 _) ?_
      refine j_iload hc dX11_countWinsOfSpeeds_89 rfl ?_
      refine j_iaload (n := 8) hc dX11_countWinsOfSpeeds_91 (kC_4 _) hf (fun v1 hf => ?_)
      refine j_iload_n hc dX11_countWinsOfSpeeds_92 rfl ?_
      refine j_icmp_eq (tgt := 167) hc dX11_countWinsOfSpeeds_93 rfl hf (fun hf => ?_) (fun hf => ?_)
      · exact j_sub (tX11_countWinsOfSpeeds_t_b167 n d hc k3 k65 hk3 hk65 _ _ _ _ _ _ _ _ hf) (And.intro rfl (And.intro rfl (And.intro rfl (And.intro rfl (And.intro rfl (And.intro rfl (And.intro rfl (trivial))))))))
      · refine j_aload_n hc dX11_countWinsOfSpeeds_96 rfl ?_
        refine j_getR (u := 3) hc dX11_countWinsOfSpeeds_97 (fgC_X11_19_0 _) (rC_0_1 _) ?_
        refine j_getR (u := 6) hc dX11_countWinsOfSpeeds_100 (fgC_X11_171_3 _) (rC_3_7 _) ?_
        refine j_iload hc dX11_countWinsOfSpeeds_103 rfl ?_
        refine j_iaload (n := 8) hc dX11_countWinsOfSpeeds_105 (kC_6 _) hf (fun v2 hf => ?_)
        refine j_iload_n hc dX11_countWinsOfSpeeds_106 rfl ?_
        refine j_icmp_ne (tgt := 167) hc dX11_countWinsOfSpeeds_107 rfl hf (fun hf => ?_) (fun hf => ?_)
        · exact j_sub (tX11_countWinsOfSpeeds_t_b167 n d hc k3 k65 hk3 hk65 _ _ _ _ _ _ _ _ hf) (And.intro rfl (And.intro rfl (And.intro rfl (And.intro rfl (And.intro rfl (And.intro rfl (And.intro rfl (trivial))))))))
        · refine j_aload_n hc dX11_countWinsOfSpeeds_110 rfl ?_
          refine j_getR (u := 39) hc dX11_countWinsOfSpeeds_111 (fgC_X11_56_0 _) (rC_0_6 _) ?_
          refine j_iload hc dX11_countWinsOfSpeeds_114 rfl ?_
          refine j_callVI (t := 39) (As := [.int a6]) hc dX11_countWinsOfSpeeds_116 kw_916 mX7_canGo (kC_39 _) clX7 rfl (by omega) (Nat.le_of_ble_eq_true rfl) (Nat.le_of_ble_eq_true rfl) ⟨Nat.le_refl _, Nat.le_refl _⟩ hf (fun v I' L' h => qX7_canGo x.2.1 n d a6 I L v I' L' h) (fun v3 I3 L3 hf => ?_)
          refine j_if_eq (tgt := 167) hc dX11_countWinsOfSpeeds_119 rfl hf (fun hf => ?_) (fun hf => ?_)
          · exact j_sub (tX11_countWinsOfSpeeds_t_b167 n d hc k3 k65 hk3 hk65 _ _ _ _ _ _ _ _ hf) (And.intro rfl (And.intro rfl (And.intro rfl (And.intro rfl (And.intro rfl (And.intro rfl (And.intro rfl (trivial))))))))
          · refine j_aload_n hc dX11_countWinsOfSpeeds_122 rfl ?_
            refine j_iload hc dX11_countWinsOfSpeeds_123 rfl ?_
            refine j_iload hc dX11_countWinsOfSpeeds_125 rfl ?_
            refine j_callVV (t := 0) (As := [.int a4, .int a6]) hc dX11_countWinsOfSpeeds_127 kw_1086 mX11_makeDuelReady (kC_0 _) clX11 rfl (by omega) (Nat.le_of_ble_eq_true rfl) (Nat.le_of_ble_eq_true rfl) ⟨Nat.le_refl _, Nat.le_refl _⟩ hf (fun I' L' h => qX11_makeDuelReady_t x.2.1 n d a4 a6 I3 L3 I' L' h) (fun I4 L4 hf => ?_)
            exact j_sub (tX11_countWinsOfSpeeds_t_b130 n d hc k3 k65 hk3 hk65 _ _ _ _ _ _ _ _ hf) (And.intro rfl (And.intro rfl (And.intro rfl (And.intro rfl (And.intro rfl (And.intro rfl (And.intro rfl (trivial))))))))

def fX11_countWinsOfSpeeds_t_b65 (n d : Nat) (k3 : Int32 → Int32 → Int32 → Int32 → am_I → am_L → Option (am_I × am_L)) : Nat → Int32 → Int32 → Int32 → Int32 → Int32 → Int32 → am_I → am_L → Option (am_I × am_L)
  | 0 => fun _ _ _ _ _ _ _ _ => none
  | m + 1 => fX11_countWinsOfSpeeds_t_b65w n d  k3 (fX11_countWinsOfSpeeds_t_b65 n d k3 m)

set_option maxRecDepth 100000 in
theorem tX11_countWinsOfSpeeds_t_b65 {x : am_X} (n d : Nat) (hc : am_ok x cX11_countWinsOfSpeeds yX11_countWinsOfSpeeds 7 none (d + 6) 0 0) {I' : am_I} {L' : am_L} (k3 : Int32 → Int32 → Int32 → Int32 → am_I → am_L → Option (am_I × am_L)) (hk3 : ∀ (a1 : Int32) (a2 : Int32) (a3 : Int32) (a4 : Int32) (I : am_I) (L : am_L), k3 a1 a2 a3 a4 I L = some (I', L') → am_J x (fun S => S = (none, (KC true), (RC true), I', L')) 3 [some (.ref 0), some (.int a1), some (.int a2), some (.int a3), some (.int a4), none, none] [] (KC true) (RC true) I L 0 0) (m : Nat) : ∀ (a1 : Int32) (a2 : Int32) (a3 : Int32) (a4 : Int32) (a5 : Int32) (a6 : Int32) (I : am_I) (L : am_L) (hf : fX11_countWinsOfSpeeds_t_b65 n d k3 m a1 a2 a3 a4 a5 a6 I L = some (I', L')), am_J x (fun S => S = (none, (KC true), (RC true), I', L')) 65 [some (.ref 0), some (.int a1), some (.int a2), some (.int a3), some (.int a4), some (.int a5), some (.int a6)] [] (KC true) (RC true) I L 0 0 := by
  induction m with
  | zero => intro a1 a2 a3 a4 a5 a6 I L hf; exact (Option.some_ne_none _ hf.symm).elim
  | succ m ih => intro a1 a2 a3 a4 a5 a6 I L hf; exact tX11_countWinsOfSpeeds_t_b65w n d hc k3 (fX11_countWinsOfSpeeds_t_b65 n d k3 m) hk3 ih a1 a2 a3 a4 a5 a6 I L hf

set_option maxRecDepth 100000 in
def fX11_countWinsOfSpeeds_t_b60 (n d : Nat) (k3 : Int32 → Int32 → Int32 → Int32 → am_I → am_L → Option (am_I × am_L)) (s0 : Int32) (a1 : Int32) (a2 : Int32) (a3 : Int32) (a4 : Int32) (I : am_I) (L : am_L) : Option (am_I × am_L) :=
  am_lt s0 (fun v1 => am_lt (0 : Int32) (fun v2 => fX11_countWinsOfSpeeds_t_b65 n d k3 n a1 a2 a3 a4 v1 v2 I L))

set_option maxRecDepth 100000 in
set_option maxHeartbeats 4000000 in
theorem tX11_countWinsOfSpeeds_t_b60 {x : am_X} (n d : Nat) (hc : am_ok x cX11_countWinsOfSpeeds yX11_countWinsOfSpeeds 7 none (d + 6) 0 0) {I' : am_I} {L' : am_L} (k3 : Int32 → Int32 → Int32 → Int32 → am_I → am_L → Option (am_I × am_L)) (hk3 : ∀ (a1 : Int32) (a2 : Int32) (a3 : Int32) (a4 : Int32) (I : am_I) (L : am_L), k3 a1 a2 a3 a4 I L = some (I', L') → am_J x (fun S => S = (none, (KC true), (RC true), I', L')) 3 [some (.ref 0), some (.int a1), some (.int a2), some (.int a3), some (.int a4), none, none] [] (KC true) (RC true) I L 0 0) (s0 : Int32) (a1 : Int32) (a2 : Int32) (a3 : Int32) (a4 : Int32) (I : am_I) (L : am_L) (hf : fX11_countWinsOfSpeeds_t_b60 n d k3 s0 a1 a2 a3 a4 I L = some (I', L')) : am_J x (fun S => S = (none, (KC true), (RC true), I', L')) 60 [some (.ref 0), some (.int a1), some (.int a2), some (.int a3), some (.int a4), none, none] [.int s0] (KC true) (RC true) I L 0 0 := by
  unfold fX11_countWinsOfSpeeds_t_b60 at hf
  refine j_istore hc dX11_countWinsOfSpeeds_60 (Nat.le_of_ble_eq_true rfl) hf (fun v1 hf => ?_)
  refine j_iconst (v := (0 : Int32)) hc dX11_countWinsOfSpeeds_62 ci_0 ?_
  refine j_istore hc dX11_countWinsOfSpeeds_63 (Nat.le_of_ble_eq_true rfl) hf (fun v2 hf => ?_)
  exact j_sub (tX11_countWinsOfSpeeds_t_b65 n d hc k3 hk3 n _ _ _ _ _ _ _ _ hf) (And.intro rfl (And.intro rfl (And.intro rfl (And.intro rfl (And.intro rfl (And.intro rfl (And.intro rfl (trivial))))))))

set_option maxRecDepth 100000 in
def fX11_countWinsOfSpeeds_t_b59 (n d : Nat) (k3 : Int32 → Int32 → Int32 → Int32 → am_I → am_L → Option (am_I × am_L)) (a1 : Int32) (a2 : Int32) (a3 : Int32) (a4 : Int32) (I : am_I) (L : am_L) : Option (am_I × am_L) :=
  fX11_countWinsOfSpeeds_t_b60 n d k3 (0 : Int32) a1 a2 a3 a4 I L

set_option maxRecDepth 100000 in
set_option maxHeartbeats 4000000 in
theorem tX11_countWinsOfSpeeds_t_b59 {x : am_X} (n d : Nat) (hc : am_ok x cX11_countWinsOfSpeeds yX11_countWinsOfSpeeds 7 none (d + 6) 0 0) {I' : am_I} {L' : am_L} (k3 : Int32 → Int32 → Int32 → Int32 → am_I → am_L → Option (am_I × am_L)) (hk3 : ∀ (a1 : Int32) (a2 : Int32) (a3 : Int32) (a4 : Int32) (I : am_I) (L : am_L), k3 a1 a2 a3 a4 I L = some (I', L') → am_J x (fun S => S = (none, (KC true), (RC true), I', L')) 3 [some (.ref 0), some (.int a1), some (.int a2), some (.int a3), some (.int a4), none, none] [] (KC true) (RC true) I L 0 0) (a1 : Int32) (a2 : Int32) (a3 : Int32) (a4 : Int32) (I : am_I) (L : am_L) (hf : fX11_countWinsOfSpeeds_t_b59 n d k3 a1 a2 a3 a4 I L = some (I', L')) : am_J x (fun S => S = (none, (KC true), (RC true), I', L')) 59 [some (.ref 0), some (.int a1), some (.int a2), some (.int a3), some (.int a4), none, none] [] (KC true) (RC true) I L 0 0 := by
  unfold fX11_countWinsOfSpeeds_t_b59 at hf
  refine j_iconst (v := (0 : Int32)) hc dX11_countWinsOfSpeeds_59 ci_0 ?_
  exact j_sub (tX11_countWinsOfSpeeds_t_b60 n d hc k3 hk3 _ _ _ _ _ _ _ hf) (And.intro rfl (And.intro rfl (And.intro rfl (And.intro rfl (And.intro rfl (trivial))))))

set_option maxRecDepth 100000 in
def fX11_countWinsOfSpeeds_t_b3w (n d : Nat) (k3 : Int32 → Int32 → Int32 → Int32 → am_I → am_L → Option (am_I × am_L)) (a1 : Int32) (a2 : Int32) (a3 : Int32) (a4 : Int32) (I : am_I) (L : am_L) : Option (am_I × am_L) :=
  if (I 3 0) ≤ a4 then
    (some (I, L))
    else
    (am_ck a4 8 (am_lt (I 4 (a4).toNatClampNeg) (fun v1 => if v1 = a1 then
      (am_ck a4 8 (am_lt (I 6 (a4).toNatClampNeg) (fun v2 => if v2 = a2 then
        (am_b3 (fX7_canGo n d a4 I L) (fun v3 I3 L3 => if v3 = 0 then
          (fX11_countWinsOfSpeeds_t_b59 n d k3 a1 a2 a3 a4 I3 L3)
          else
          (fX11_countWinsOfSpeeds_t_b60 n d k3 (1 : Int32) a1 a2 a3 a4 I3 L3)))
        else
        (fX11_countWinsOfSpeeds_t_b59 n d k3 a1 a2 a3 a4 I L))))
      else
      (fX11_countWinsOfSpeeds_t_b59 n d k3 a1 a2 a3 a4 I L))))

set_option maxRecDepth 100000 in
set_option maxHeartbeats 4000000 in
theorem tX11_countWinsOfSpeeds_t_b3w {x : am_X} (n d : Nat) (hc : am_ok x cX11_countWinsOfSpeeds yX11_countWinsOfSpeeds 7 none (d + 6) 0 0) {I' : am_I} {L' : am_L} (k3 : Int32 → Int32 → Int32 → Int32 → am_I → am_L → Option (am_I × am_L)) (hk3 : ∀ (a1 : Int32) (a2 : Int32) (a3 : Int32) (a4 : Int32) (I : am_I) (L : am_L), k3 a1 a2 a3 a4 I L = some (I', L') → am_J x (fun S => S = (none, (KC true), (RC true), I', L')) 3 [some (.ref 0), some (.int a1), some (.int a2), some (.int a3), some (.int a4), none, none] [] (KC true) (RC true) I L 0 0) (a1 : Int32) (a2 : Int32) (a3 : Int32) (a4 : Int32) (I : am_I) (L : am_L) (hf : fX11_countWinsOfSpeeds_t_b3w n d k3 a1 a2 a3 a4 I L = some (I', L')) : am_J x (fun S => S = (none, (KC true), (RC true), I', L')) 3 [some (.ref 0), some (.int a1), some (.int a2), some (.int a3), some (.int a4), none, none] [] (KC true) (RC true) I L 0 0 := by
  unfold fX11_countWinsOfSpeeds_t_b3w at hf
  refine j_iload hc dX11_countWinsOfSpeeds_3 rfl ?_
  refine j_aload_n hc dX11_countWinsOfSpeeds_5 rfl ?_
  refine j_getR (u := 3) hc dX11_countWinsOfSpeeds_6 (fgC_X11_19_0 _) (rC_0_1 _) ?_
  refine j_getI hc dX11_countWinsOfSpeeds_9 (fgC_X11_151_3 _) ?_
  refine j_icmp_ge (tgt := 179) hc dX11_countWinsOfSpeeds_12 rfl hf (fun hf => ?_) (fun hf => ?_)
  · exact j_return hc dX11_countWinsOfSpeeds_179 rfl rfl hf
  · refine j_aload_n hc dX11_countWinsOfSpeeds_15 rfl ?_
    refine j_getR (u := 3) hc dX11_countWinsOfSpeeds_16 (fgC_X11_19_0 _) (rC_0_1 _) ?_
    refine j_getR (u := 4) hc dX11_countWinsOfSpeeds_19 (fgC_X11_165_3 _) (rC_3_5 _) ?_
    refine j_iload hc dX11_countWinsOfSpeeds_22 rfl ?_
    refine j_iaload (n := 8) hc dX11_countWinsOfSpeeds_24 (kC_4 _) hf (fun v1 hf => ?_)
    refine j_iload_n hc dX11_countWinsOfSpeeds_25 rfl ?_
    refine j_icmp_ne (tgt := 59) hc dX11_countWinsOfSpeeds_26 rfl hf (fun hf => ?_) (fun hf => ?_)
    · exact j_sub (tX11_countWinsOfSpeeds_t_b59 n d hc k3 hk3 _ _ _ _ _ _ hf) (And.intro rfl (And.intro rfl (And.intro rfl (And.intro rfl (And.intro rfl (trivial))))))
    · refine j_aload_n hc dX11_countWinsOfSpeeds_29 rfl ?_
      refine j_getR (u := 3) hc dX11_countWinsOfSpeeds_30 (fgC_X11_19_0 _) (rC_0_1 _) ?_
      refine j_getR (u := 6) hc dX11_countWinsOfSpeeds_33 (fgC_X11_171_3 _) (rC_3_7 _) ?_
      refine j_iload hc dX11_countWinsOfSpeeds_36 rfl ?_
      refine j_iaload (n := 8) hc dX11_countWinsOfSpeeds_38 (kC_6 _) hf (fun v2 hf => ?_)
      refine j_iload_n hc dX11_countWinsOfSpeeds_39 rfl ?_
      refine j_icmp_ne (tgt := 59) hc dX11_countWinsOfSpeeds_40 rfl hf (fun hf => ?_) (fun hf => ?_)
      · exact j_sub (tX11_countWinsOfSpeeds_t_b59 n d hc k3 hk3 _ _ _ _ _ _ hf) (And.intro rfl (And.intro rfl (And.intro rfl (And.intro rfl (And.intro rfl (trivial))))))
      · refine j_aload_n hc dX11_countWinsOfSpeeds_43 rfl ?_
        refine j_getR (u := 39) hc dX11_countWinsOfSpeeds_44 (fgC_X11_56_0 _) (rC_0_6 _) ?_
        refine j_iload hc dX11_countWinsOfSpeeds_47 rfl ?_
        refine j_callVI (t := 39) (As := [.int a4]) hc dX11_countWinsOfSpeeds_49 kw_916 mX7_canGo (kC_39 _) clX7 rfl (by omega) (Nat.le_of_ble_eq_true rfl) (Nat.le_of_ble_eq_true rfl) ⟨Nat.le_refl _, Nat.le_refl _⟩ hf (fun v I' L' h => qX7_canGo x.2.1 n d a4 I L v I' L' h) (fun v3 I3 L3 hf => ?_)
        refine j_if_eq (tgt := 59) hc dX11_countWinsOfSpeeds_52 rfl hf (fun hf => ?_) (fun hf => ?_)
        · exact j_sub (tX11_countWinsOfSpeeds_t_b59 n d hc k3 hk3 _ _ _ _ _ _ hf) (And.intro rfl (And.intro rfl (And.intro rfl (And.intro rfl (And.intro rfl (trivial))))))
        · refine j_iconst (v := (1 : Int32)) hc dX11_countWinsOfSpeeds_55 ci_1 ?_
          refine j_goto (tgt := 60) hc dX11_countWinsOfSpeeds_56 rfl ?_
          exact j_sub (tX11_countWinsOfSpeeds_t_b60 n d hc k3 hk3 _ _ _ _ _ _ _ hf) (And.intro rfl (And.intro rfl (And.intro rfl (And.intro rfl (And.intro rfl (trivial))))))

def fX11_countWinsOfSpeeds_t_b3 (n d : Nat) : Nat → Int32 → Int32 → Int32 → Int32 → am_I → am_L → Option (am_I × am_L)
  | 0 => fun _ _ _ _ _ _ => none
  | m + 1 => fX11_countWinsOfSpeeds_t_b3w n d  (fX11_countWinsOfSpeeds_t_b3 n d m)

set_option maxRecDepth 100000 in
theorem tX11_countWinsOfSpeeds_t_b3 {x : am_X} (n d : Nat) (hc : am_ok x cX11_countWinsOfSpeeds yX11_countWinsOfSpeeds 7 none (d + 6) 0 0) {I' : am_I} {L' : am_L} (m : Nat) : ∀ (a1 : Int32) (a2 : Int32) (a3 : Int32) (a4 : Int32) (I : am_I) (L : am_L) (hf : fX11_countWinsOfSpeeds_t_b3 n d m a1 a2 a3 a4 I L = some (I', L')), am_J x (fun S => S = (none, (KC true), (RC true), I', L')) 3 [some (.ref 0), some (.int a1), some (.int a2), some (.int a3), some (.int a4), none, none] [] (KC true) (RC true) I L 0 0 := by
  induction m with
  | zero => intro a1 a2 a3 a4 I L hf; exact (Option.some_ne_none _ hf.symm).elim
  | succ m ih => intro a1 a2 a3 a4 I L hf; exact tX11_countWinsOfSpeeds_t_b3w n d hc (fX11_countWinsOfSpeeds_t_b3 n d m) ih a1 a2 a3 a4 I L hf

set_option maxRecDepth 100000 in
def fX11_countWinsOfSpeeds_t (n d : Nat) (a1 : Int32) (a2 : Int32) (a3 : Int32) (I : am_I) (L : am_L) : Option (am_I × am_L) :=
  am_lt (0 : Int32) (fun v1 => fX11_countWinsOfSpeeds_t_b3 n d n a1 a2 a3 v1 I L)

set_option maxRecDepth 100000 in
set_option maxHeartbeats 4000000 in
theorem tX11_countWinsOfSpeeds_t {x : am_X} (n d : Nat) (hc : am_ok x cX11_countWinsOfSpeeds yX11_countWinsOfSpeeds 7 none (d + 6) 0 0) {I' : am_I} {L' : am_L} (a1 : Int32) (a2 : Int32) (a3 : Int32) (I : am_I) (L : am_L) (hf : fX11_countWinsOfSpeeds_t n d a1 a2 a3 I L = some (I', L')) : am_J x (fun S => S = (none, (KC true), (RC true), I', L')) 0 [some (.ref 0), some (.int a1), some (.int a2), some (.int a3), none, none, none] [] (KC true) (RC true) I L 0 0 := by
  unfold fX11_countWinsOfSpeeds_t at hf
  refine j_iconst (v := (0 : Int32)) hc dX11_countWinsOfSpeeds_0 ci_0 ?_
  refine j_istore hc dX11_countWinsOfSpeeds_1 (Nat.le_of_ble_eq_true rfl) hf (fun v1 hf => ?_)
  exact j_sub (tX11_countWinsOfSpeeds_t_b3 n d hc n _ _ _ _ _ _ hf) (And.intro rfl (And.intro rfl (And.intro rfl (And.intro rfl (And.intro rfl (trivial))))))

set_option maxRecDepth 100000 in
theorem qX11_countWinsOfSpeeds_t (l : Launch) (n d : Nat) (a1 : Int32) (a2 : Int32) (a3 : Int32) (I : am_I) (L : am_L) (I' : am_I) (L' : am_L) (hf : fX11_countWinsOfSpeeds_t n d a1 a2 a3 I L = some (I', L')) : am_C l yX11_countWinsOfSpeeds cX11_countWinsOfSpeeds 7 none (d + 6) [.ref 0, .int a1, .int a2, .int a3] (KC true) (RC true) I L none I' L' := by
  exact am_intro (plainFor_of_name plX11) (fun _ _ => trivial) (Nat.le_of_ble_eq_true rfl) (fun x hl hc => by subst hl; exact j_sub (tX11_countWinsOfSpeeds_t n d hc _ _ _ _ _ hf) (And.intro rfl (And.intro rfl (And.intro rfl (And.intro rfl (trivial))))))
set_option maxRecDepth 100000 in
def fX11_countWins_t_b45 (n d : Nat) (k26 : Int32 → Int32 → am_I → am_L → Option (am_I × am_L)) (k33 : Int32 → Int32 → Int32 → am_I → am_L → Option (am_I × am_L)) (a1 : Int32) (a2 : Int32) (a3 : Int32) (I : am_I) (L : am_L) : Option (am_I × am_L) :=
  am_lt (a3 + (1 : Int32)) (fun v1 => k33 a1 a2 v1 I L)

set_option maxRecDepth 100000 in
set_option maxHeartbeats 4000000 in
theorem tX11_countWins_t_b45 {x : am_X} (n d : Nat) (hc : am_ok x cX11_countWins yX11_countWins 4 none (d + 7) 0 0) {I' : am_I} {L' : am_L} (k26 : Int32 → Int32 → am_I → am_L → Option (am_I × am_L)) (k33 : Int32 → Int32 → Int32 → am_I → am_L → Option (am_I × am_L)) (hk26 : ∀ (a1 : Int32) (a2 : Int32) (I : am_I) (L : am_L), k26 a1 a2 I L = some (I', L') → am_J x (fun S => S = (none, (KC true), (RC true), I', L')) 26 [some (.ref 0), some (.int a1), some (.int a2), none] [] (KC true) (RC true) I L 0 0) (hk33 : ∀ (a1 : Int32) (a2 : Int32) (a3 : Int32) (I : am_I) (L : am_L), k33 a1 a2 a3 I L = some (I', L') → am_J x (fun S => S = (none, (KC true), (RC true), I', L')) 33 [some (.ref 0), some (.int a1), some (.int a2), some (.int a3)] [] (KC true) (RC true) I L 0 0) (a1 : Int32) (a2 : Int32) (a3 : Int32) (I : am_I) (L : am_L) (hf : fX11_countWins_t_b45 n d k26 k33 a1 a2 a3 I L = some (I', L')) : am_J x (fun S => S = (none, (KC true), (RC true), I', L')) 45 [some (.ref 0), some (.int a1), some (.int a2), some (.int a3)] [] (KC true) (RC true) I L 0 0 := by
  unfold fX11_countWins_t_b45 at hf
  refine j_iinc (w := (1 : Int32)) hc dX11_countWins_45 rfl ci_1 (Nat.le_of_ble_eq_true rfl) hf (fun v1 hf => ?_)
  refine j_goto (tgt := 33) hc dX11_countWins_48 rfl ?_
  exact j_sub (hk33 _ _ _ _ _ hf) (And.intro rfl (And.intro rfl (And.intro rfl (And.intro rfl (trivial)))))

set_option maxRecDepth 100000 in
def fX11_countWins_t_b33w (n d : Nat) (k26 : Int32 → Int32 → am_I → am_L → Option (am_I × am_L)) (k33 : Int32 → Int32 → Int32 → am_I → am_L → Option (am_I × am_L)) (a1 : Int32) (a2 : Int32) (a3 : Int32) (I : am_I) (L : am_L) : Option (am_I × am_L) :=
  if (5 : Int32) < a3 then
    (am_lt (a2 + (1 : Int32)) (fun v1 => k26 a1 v1 I L))
    else
    (am_b2 (fX11_countWinsOfSpeeds_t n d a1 a2 a3 I L) (fun I2 L2 => fX11_countWins_t_b45 n d k26 k33 a1 a2 a3 I2 L2))

set_option maxRecDepth 100000 in
set_option maxHeartbeats 4000000 in
theorem tX11_countWins_t_b33w {x : am_X} (n d : Nat) (hc : am_ok x cX11_countWins yX11_countWins 4 none (d + 7) 0 0) {I' : am_I} {L' : am_L} (k26 : Int32 → Int32 → am_I → am_L → Option (am_I × am_L)) (k33 : Int32 → Int32 → Int32 → am_I → am_L → Option (am_I × am_L)) (hk26 : ∀ (a1 : Int32) (a2 : Int32) (I : am_I) (L : am_L), k26 a1 a2 I L = some (I', L') → am_J x (fun S => S = (none, (KC true), (RC true), I', L')) 26 [some (.ref 0), some (.int a1), some (.int a2), none] [] (KC true) (RC true) I L 0 0) (hk33 : ∀ (a1 : Int32) (a2 : Int32) (a3 : Int32) (I : am_I) (L : am_L), k33 a1 a2 a3 I L = some (I', L') → am_J x (fun S => S = (none, (KC true), (RC true), I', L')) 33 [some (.ref 0), some (.int a1), some (.int a2), some (.int a3)] [] (KC true) (RC true) I L 0 0) (a1 : Int32) (a2 : Int32) (a3 : Int32) (I : am_I) (L : am_L) (hf : fX11_countWins_t_b33w n d k26 k33 a1 a2 a3 I L = some (I', L')) : am_J x (fun S => S = (none, (KC true), (RC true), I', L')) 33 [some (.ref 0), some (.int a1), some (.int a2), some (.int a3)] [] (KC true) (RC true) I L 0 0 := by
  unfold fX11_countWins_t_b33w at hf
  refine j_iload_n hc dX11_countWins_33 rfl ?_
  refine j_iconst (v := (5 : Int32)) hc dX11_countWins_34 ci_5 ?_
  refine j_icmp_gt (tgt := 51) hc dX11_countWins_35 rfl hf (fun hf => ?_) (fun hf => ?_)
  · refine j_iinc (w := (1 : Int32)) hc dX11_countWins_51 rfl ci_1 (Nat.le_of_ble_eq_true rfl) hf (fun v1 hf => ?_)
    refine j_goto (tgt := 26) hc dX11_countWins_54 rfl ?_
    exact j_sub (hk26 _ _ _ _ hf) (And.intro rfl (And.intro rfl (And.intro rfl (trivial))))
  · refine j_aload_n hc dX11_countWins_38 rfl ?_
    refine j_iload_n hc dX11_countWins_39 rfl ?_
    refine j_iload_n hc dX11_countWins_40 rfl ?_
    refine j_iload_n hc dX11_countWins_41 rfl ?_
    refine j_callVV (t := 0) (As := [.int a1, .int a2, .int a3]) hc dX11_countWins_42 kw_1160 mX11_countWinsOfSpeeds (kC_0 _) clX11 rfl (by omega) (Nat.le_of_ble_eq_true rfl) (Nat.le_of_ble_eq_true rfl) ⟨Nat.le_refl _, Nat.le_refl _⟩ hf (fun I' L' h => qX11_countWinsOfSpeeds_t x.2.1 n d a1 a2 a3 I L I' L' h) (fun I2 L2 hf => ?_)
    exact j_sub (tX11_countWins_t_b45 n d hc k26 k33 hk26 hk33 _ _ _ _ _ hf) (And.intro rfl (And.intro rfl (And.intro rfl (And.intro rfl (trivial)))))

def fX11_countWins_t_b33 (n d : Nat) (k26 : Int32 → Int32 → am_I → am_L → Option (am_I × am_L)) : Nat → Int32 → Int32 → Int32 → am_I → am_L → Option (am_I × am_L)
  | 0 => fun _ _ _ _ _ => none
  | m + 1 => fX11_countWins_t_b33w n d  k26 (fX11_countWins_t_b33 n d k26 m)

set_option maxRecDepth 100000 in
theorem tX11_countWins_t_b33 {x : am_X} (n d : Nat) (hc : am_ok x cX11_countWins yX11_countWins 4 none (d + 7) 0 0) {I' : am_I} {L' : am_L} (k26 : Int32 → Int32 → am_I → am_L → Option (am_I × am_L)) (hk26 : ∀ (a1 : Int32) (a2 : Int32) (I : am_I) (L : am_L), k26 a1 a2 I L = some (I', L') → am_J x (fun S => S = (none, (KC true), (RC true), I', L')) 26 [some (.ref 0), some (.int a1), some (.int a2), none] [] (KC true) (RC true) I L 0 0) (m : Nat) : ∀ (a1 : Int32) (a2 : Int32) (a3 : Int32) (I : am_I) (L : am_L) (hf : fX11_countWins_t_b33 n d k26 m a1 a2 a3 I L = some (I', L')), am_J x (fun S => S = (none, (KC true), (RC true), I', L')) 33 [some (.ref 0), some (.int a1), some (.int a2), some (.int a3)] [] (KC true) (RC true) I L 0 0 := by
  induction m with
  | zero => intro a1 a2 a3 I L hf; exact (Option.some_ne_none _ hf.symm).elim
  | succ m ih => intro a1 a2 a3 I L hf; exact tX11_countWins_t_b33w n d hc k26 (fX11_countWins_t_b33 n d k26 m) hk26 ih a1 a2 a3 I L hf

set_option maxRecDepth 100000 in
def fX11_countWins_t_b26w (n d : Nat) (k26 : Int32 → Int32 → am_I → am_L → Option (am_I × am_L)) (a1 : Int32) (a2 : Int32) (I : am_I) (L : am_L) : Option (am_I × am_L) :=
  if (5 : Int32) < a2 then
    (some (I, L))
    else
    (am_lt (1 : Int32) (fun v1 => fX11_countWins_t_b33 n d k26 n a1 a2 v1 I L))

set_option maxRecDepth 100000 in
set_option maxHeartbeats 4000000 in
theorem tX11_countWins_t_b26w {x : am_X} (n d : Nat) (hc : am_ok x cX11_countWins yX11_countWins 4 none (d + 7) 0 0) {I' : am_I} {L' : am_L} (k26 : Int32 → Int32 → am_I → am_L → Option (am_I × am_L)) (hk26 : ∀ (a1 : Int32) (a2 : Int32) (I : am_I) (L : am_L), k26 a1 a2 I L = some (I', L') → am_J x (fun S => S = (none, (KC true), (RC true), I', L')) 26 [some (.ref 0), some (.int a1), some (.int a2), none] [] (KC true) (RC true) I L 0 0) (a1 : Int32) (a2 : Int32) (I : am_I) (L : am_L) (hf : fX11_countWins_t_b26w n d k26 a1 a2 I L = some (I', L')) : am_J x (fun S => S = (none, (KC true), (RC true), I', L')) 26 [some (.ref 0), some (.int a1), some (.int a2), none] [] (KC true) (RC true) I L 0 0 := by
  unfold fX11_countWins_t_b26w at hf
  refine j_iload_n hc dX11_countWins_26 rfl ?_
  refine j_iconst (v := (5 : Int32)) hc dX11_countWins_27 ci_5 ?_
  refine j_icmp_gt (tgt := 57) hc dX11_countWins_28 rfl hf (fun hf => ?_) (fun hf => ?_)
  · exact j_return hc dX11_countWins_57 rfl rfl hf
  · refine j_iconst (v := (1 : Int32)) hc dX11_countWins_31 ci_1 ?_
    refine j_istore_n hc dX11_countWins_32 (Nat.le_of_ble_eq_true rfl) hf (fun v1 hf => ?_)
    exact j_sub (tX11_countWins_t_b33 n d hc k26 hk26 n _ _ _ _ _ hf) (And.intro rfl (And.intro rfl (And.intro rfl (And.intro rfl (trivial)))))

def fX11_countWins_t_b26 (n d : Nat) : Nat → Int32 → Int32 → am_I → am_L → Option (am_I × am_L)
  | 0 => fun _ _ _ _ => none
  | m + 1 => fX11_countWins_t_b26w n d  (fX11_countWins_t_b26 n d m)

set_option maxRecDepth 100000 in
theorem tX11_countWins_t_b26 {x : am_X} (n d : Nat) (hc : am_ok x cX11_countWins yX11_countWins 4 none (d + 7) 0 0) {I' : am_I} {L' : am_L} (m : Nat) : ∀ (a1 : Int32) (a2 : Int32) (I : am_I) (L : am_L) (hf : fX11_countWins_t_b26 n d m a1 a2 I L = some (I', L')), am_J x (fun S => S = (none, (KC true), (RC true), I', L')) 26 [some (.ref 0), some (.int a1), some (.int a2), none] [] (KC true) (RC true) I L 0 0 := by
  induction m with
  | zero => intro a1 a2 I L hf; exact (Option.some_ne_none _ hf.symm).elim
  | succ m ih => intro a1 a2 I L hf; exact tX11_countWins_t_b26w n d hc (fX11_countWins_t_b26 n d m) ih a1 a2 I L hf

set_option maxRecDepth 100000 in
def fX11_countWins_t_b2w (n d : Nat) (k2 : Int32 → Int32 → am_I → am_L → Option (am_I × am_L)) (a1 : Int32) (a2 : Int32) (I : am_I) (L : am_L) : Option (am_I × am_L) :=
  if (8 : Int32) ≤ a2 then
    (am_lt (1 : Int32) (fun v1 => fX11_countWins_t_b26 n d n a1 v1 I L))
    else
    (am_ck a2 8 (am_lt (am_up I 66 (a2).toNatClampNeg (0 : Int32)) (fun I2 => am_lt (a2 + (1 : Int32)) (fun v3 => k2 a1 v3 I2 L))))

set_option maxRecDepth 100000 in
set_option maxHeartbeats 4000000 in
theorem tX11_countWins_t_b2w {x : am_X} (n d : Nat) (hc : am_ok x cX11_countWins yX11_countWins 4 none (d + 7) 0 0) {I' : am_I} {L' : am_L} (k2 : Int32 → Int32 → am_I → am_L → Option (am_I × am_L)) (hk2 : ∀ (a1 : Int32) (a2 : Int32) (I : am_I) (L : am_L), k2 a1 a2 I L = some (I', L') → am_J x (fun S => S = (none, (KC true), (RC true), I', L')) 2 [some (.ref 0), some (.int a1), some (.int a2), none] [] (KC true) (RC true) I L 0 0) (a1 : Int32) (a2 : Int32) (I : am_I) (L : am_L) (hf : fX11_countWins_t_b2w n d k2 a1 a2 I L = some (I', L')) : am_J x (fun S => S = (none, (KC true), (RC true), I', L')) 2 [some (.ref 0), some (.int a1), some (.int a2), none] [] (KC true) (RC true) I L 0 0 := by
  unfold fX11_countWins_t_b2w at hf
  refine j_iload_n hc dX11_countWins_2 rfl ?_
  refine j_aload_n hc dX11_countWins_3 rfl ?_
  refine j_getR (u := 66) hc dX11_countWins_4 (fgC_X11_101_0 _) (rC_0_13 _) ?_
  refine j_alen0 (v := (8 : Int32)) hc dX11_countWins_7 (kC_66 _) cn_8 ?_
  refine j_icmp_ge (tgt := 24) hc dX11_countWins_8 rfl hf (fun hf => ?_) (fun hf => ?_)
  · refine j_iconst (v := (1 : Int32)) hc dX11_countWins_24 ci_1 ?_
    refine j_istore_n hc dX11_countWins_25 (Nat.le_of_ble_eq_true rfl) hf (fun v1 hf => ?_)
    exact j_sub (tX11_countWins_t_b26 n d hc n _ _ _ _ hf) (And.intro rfl (And.intro rfl (And.intro rfl (trivial))))
  · refine j_aload_n hc dX11_countWins_11 rfl ?_
    refine j_getR (u := 66) hc dX11_countWins_12 (fgC_X11_101_0 _) (rC_0_13 _) ?_
    refine j_iload_n hc dX11_countWins_15 rfl ?_
    refine j_iconst (v := (0 : Int32)) hc dX11_countWins_16 ci_0 ?_
    refine j_iastore (n := 8) hc dX11_countWins_17 (kC_66 _) hf (fun I2 hf => ?_)
    refine j_iinc (w := (1 : Int32)) hc dX11_countWins_18 rfl ci_1 (Nat.le_of_ble_eq_true rfl) hf (fun v3 hf => ?_)
    refine j_goto (tgt := 2) hc dX11_countWins_21 rfl ?_
    exact j_sub (hk2 _ _ _ _ hf) (And.intro rfl (And.intro rfl (And.intro rfl (trivial))))

def fX11_countWins_t_b2 (n d : Nat) : Nat → Int32 → Int32 → am_I → am_L → Option (am_I × am_L)
  | 0 => fun _ _ _ _ => none
  | m + 1 => fX11_countWins_t_b2w n d  (fX11_countWins_t_b2 n d m)

set_option maxRecDepth 100000 in
theorem tX11_countWins_t_b2 {x : am_X} (n d : Nat) (hc : am_ok x cX11_countWins yX11_countWins 4 none (d + 7) 0 0) {I' : am_I} {L' : am_L} (m : Nat) : ∀ (a1 : Int32) (a2 : Int32) (I : am_I) (L : am_L) (hf : fX11_countWins_t_b2 n d m a1 a2 I L = some (I', L')), am_J x (fun S => S = (none, (KC true), (RC true), I', L')) 2 [some (.ref 0), some (.int a1), some (.int a2), none] [] (KC true) (RC true) I L 0 0 := by
  induction m with
  | zero => intro a1 a2 I L hf; exact (Option.some_ne_none _ hf.symm).elim
  | succ m ih => intro a1 a2 I L hf; exact tX11_countWins_t_b2w n d hc (fX11_countWins_t_b2 n d m) ih a1 a2 I L hf

set_option maxRecDepth 100000 in
def fX11_countWins_t (n d : Nat) (a1 : Int32) (I : am_I) (L : am_L) : Option (am_I × am_L) :=
  am_lt (0 : Int32) (fun v1 => fX11_countWins_t_b2 n d n a1 v1 I L)

set_option maxRecDepth 100000 in
set_option maxHeartbeats 4000000 in
theorem tX11_countWins_t {x : am_X} (n d : Nat) (hc : am_ok x cX11_countWins yX11_countWins 4 none (d + 7) 0 0) {I' : am_I} {L' : am_L} (a1 : Int32) (I : am_I) (L : am_L) (hf : fX11_countWins_t n d a1 I L = some (I', L')) : am_J x (fun S => S = (none, (KC true), (RC true), I', L')) 0 [some (.ref 0), some (.int a1), none, none] [] (KC true) (RC true) I L 0 0 := by
  unfold fX11_countWins_t at hf
  refine j_iconst (v := (0 : Int32)) hc dX11_countWins_0 ci_0 ?_
  refine j_istore_n hc dX11_countWins_1 (Nat.le_of_ble_eq_true rfl) hf (fun v1 hf => ?_)
  exact j_sub (tX11_countWins_t_b2 n d hc n _ _ _ _ hf) (And.intro rfl (And.intro rfl (And.intro rfl (trivial))))

set_option maxRecDepth 100000 in
theorem qX11_countWins_t (l : Launch) (n d : Nat) (a1 : Int32) (I : am_I) (L : am_L) (I' : am_I) (L' : am_L) (hf : fX11_countWins_t n d a1 I L = some (I', L')) : am_C l yX11_countWins cX11_countWins 4 none (d + 7) [.ref 0, .int a1] (KC true) (RC true) I L none I' L' := by
  exact am_intro (plainFor_of_name plX11) (fun _ _ => trivial) (Nat.le_of_ble_eq_true rfl) (fun x hl hc => by subst hl; exact j_sub (tX11_countWins_t n d hc _ _ _ hf) (And.intro rfl (And.intro rfl (trivial))))
