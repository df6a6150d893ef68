set_option maxRecDepth 100000 in
def fX11_resting_b53 (n d : Nat) (k21 : Int32 → Int32 → Int32 → am_I → am_L → Option (Int32 × am_I × am_L)) (a1 : Int32) (a2 : Int32) (a3 : Int32) (I : am_I) (L : am_L) : Option (Int32 × am_I × am_L) :=
  am_lt (a3 + (1 : Int32)) (fun v1 => k21 a1 a2 v1 I L)

set_option maxRecDepth 100000 in
set_option maxHeartbeats 4000000 in
theorem tX11_resting_b53 {x : am_X} {al : Bool} (n d : Nat) (hc : am_ok x cX11_resting yX11_resting 4 (some .int) (d + 3) 0 0) {r : Int32} {I' : am_I} {L' : am_L} (k21 : Int32 → Int32 → Int32 → am_I → am_L → Option (Int32 × am_I × am_L)) (hk21 : ∀ (a1 : Int32) (a2 : Int32) (a3 : Int32) (I : am_I) (L : am_L), k21 a1 a2 a3 I L = some (r, I', L') → am_J x (fun S => S = (some (.int r), (KC al), (RC al), I', L')) 21 [some (.ref 0), some (.int a1), some (.int a2), some (.int a3)] [] (KC al) (RC al) I L 0 0) (a1 : Int32) (a2 : Int32) (a3 : Int32) (I : am_I) (L : am_L) (hf : fX11_resting_b53 n d k21 a1 a2 a3 I L = some (r, I', L')) : am_J x (fun S => S = (some (.int r), (KC al), (RC al), I', L')) 53 [some (.ref 0), some (.int a1), some (.int a2), some (.int a3)] [] (KC al) (RC al) I L 0 0 := by
  unfold fX11_resting_b53 at hf
  refine j_iinc (w := (1 : Int32)) hc dX11_resting_53 rfl ci_1 (Nat.le_of_ble_eq_true rfl) hf (fun v1 hf => ?_)
  refine j_goto (tgt := 21) hc dX11_resting_56 rfl ?_
  exact j_sub (hk21 _ _ _ _ _ hf) (And.intro rfl (And.intro rfl (And.intro rfl (And.intro rfl (trivial)))))

set_option maxRecDepth 100000 in
def fX11_resting_b21w (n d : Nat) (k21 : Int32 → Int32 → Int32 → am_I → am_L → Option (Int32 × am_I × am_L)) (a1 : Int32) (a2 : Int32) (a3 : Int32) (I : am_I) (L : am_L) : Option (Int32 × am_I × am_L) :=
  am_b3 (fX9_allBits_war n d I L) (fun v1 I1 L1 => if v1 < a3 then
    (if a1 = (-1 : Int32) then
      (some (a2, I1, L1))
      else
      (some ((-1 : Int32), I1, L1)))
    else
    (am_b3 (fX9_isAtRest_war n d a3 I1 L1) (fun v2 I2 L2 => if v2 = 0 then
      (fX11_resting_b53 n d k21 a1 a2 a3 I2 L2)
      else
      (if a2 = a1 then
        (some (a3, I2, L2))
        else
        (am_lt (a2 + (1 : Int32)) (fun v3 => fX11_resting_b53 n d k21 a1 v3 a3 I2 L2))))))

set_option maxRecDepth 100000 in
set_option maxHeartbeats 4000000 in
theorem tX11_resting_b21w {x : am_X} {al : Bool} (n d : Nat) (hc : am_ok x cX11_resting yX11_resting 4 (some .int) (d + 3) 0 0) {r : Int32} {I' : am_I} {L' : am_L} (k21 : Int32 → Int32 → Int32 → am_I → am_L → Option (Int32 × am_I × am_L)) (hk21 : ∀ (a1 : Int32) (a2 : Int32) (a3 : Int32) (I : am_I) (L : am_L), k21 a1 a2 a3 I L = some (r, I', L') → am_J x (fun S => S = (some (.int r), (KC al), (RC al), I', L')) 21 [some (.ref 0), some (.int a1), some (.int a2), some (.int a3)] [] (KC al) (RC al) I L 0 0) (a1 : Int32) (a2 : Int32) (a3 : Int32) (I : am_I) (L : am_L) (hf : fX11_resting_b21w n d k21 a1 a2 a3 I L = some (r, I', L')) : am_J x (fun S => S = (some (.int r), (KC al), (RC al), I', L')) 21 [some (.ref 0), some (.int a1), some (.int a2), some (.int a3)] [] (KC al) (RC al) I L 0 0 := by
  unfold fX11_resting_b21w at hf
  refine j_iload_n hc dX11_resting_21 rfl ?_
  refine j_aload_n hc dX11_resting_22 rfl ?_
  refine j_getR (u := 3) hc dX11_resting_23 (fgC_X11_19_0 _) (rC_0_1 _) ?_
  refine j_callVI (t := 3) (As := []) hc dX11_resting_26 kw_1261 mX9_allBits (kC_3 _) clX9 rfl (by omega) (Nat.le_of_ble_eq_true rfl) (Nat.le_of_ble_eq_true rfl) ⟨Nat.le_refl _, Nat.le_refl _⟩ hf (fun v I' L' h => qX9_allBits_war x.2.1 n d I L v I' L' h) (fun v1 I1 L1 hf => ?_)
  refine j_icmp_gt (tgt := 59) hc dX11_resting_29 rfl hf (fun hf => ?_) (fun hf => ?_)
  · refine j_iload_n hc dX11_resting_59 rfl ?_
    refine j_iconst (v := (-1 : Int32)) hc dX11_resting_60 ci_m1 ?_
    refine j_icmp_ne (tgt := 68) hc dX11_resting_61 rfl hf (fun hf => ?_) (fun hf => ?_)
    · refine j_iconst (v := (-1 : Int32)) hc dX11_resting_68 ci_m1 ?_
      exact j_ireturn hc dX11_resting_69 rfl rfl hf
    · refine j_iload_n hc dX11_resting_64 rfl ?_
      refine j_goto (tgt := 69) hc dX11_resting_65 rfl ?_
      exact j_ireturn hc dX11_resting_69 rfl rfl hf
  · refine j_aload_n hc dX11_resting_32 rfl ?_
    refine j_getR (u := 3) hc dX11_resting_33 (fgC_X11_19_0 _) (rC_0_1 _) ?_
    refine j_iload_n hc dX11_resting_36 rfl ?_
    refine j_callVI (t := 3) (As := [.int a3]) hc dX11_resting_37 kw_1304 mX9_isAtRest (kC_3 _) clX9 rfl (by omega) (Nat.le_of_ble_eq_true rfl) (Nat.le_of_ble_eq_true rfl) ⟨Nat.le_refl _, Nat.le_refl _⟩ hf (fun v I' L' h => qX9_isAtRest_war x.2.1 n d a3 I1 L1 v I' L' h) (fun v2 I2 L2 hf => ?_)
    refine j_if_eq (tgt := 53) hc dX11_resting_40 rfl hf (fun hf => ?_) (fun hf => ?_)
    · exact j_sub (tX11_resting_b53 n d hc k21 hk21 _ _ _ _ _ hf) (And.intro rfl (And.intro rfl (And.intro rfl (And.intro rfl (trivial)))))
    · refine j_iload_n hc dX11_resting_43 rfl ?_
      refine j_iload_n hc dX11_resting_44 rfl ?_
      refine j_icmp_ne (tgt := 50) hc dX11_resting_45 rfl hf (fun hf => ?_) (fun hf => ?_)
      · refine j_iinc (w := (1 : Int32)) hc dX11_resting_50 rfl ci_1 (Nat.le_of_ble_eq_true rfl) hf (fun v3 hf => ?_)
        exact j_sub (tX11_resting_b53 n d hc k21 hk21 _ _ _ _ _ hf) (And.intro rfl (And.intro rfl (And.intro rfl (And.intro rfl (trivial)))))
      · refine j_iload_n hc dX11_resting_48 rfl ?_
        exact j_ireturn hc dX11_resting_49 rfl rfl hf

def fX11_resting_b21 (n d : Nat) : Nat → Int32 → Int32 → Int32 → am_I → am_L → Option (Int32 × am_I × am_L)
  | 0 => fun _ _ _ _ _ => none
  | m + 1 => fX11_resting_b21w n d  (fX11_resting_b21 n d m)

set_option maxRecDepth 100000 in
theorem tX11_resting_b21 {x : am_X} {al : Bool} (n d : Nat) (hc : am_ok x cX11_resting yX11_resting 4 (some .int) (d + 3) 0 0) {r : Int32} {I' : am_I} {L' : am_L} (m : Nat) : ∀ (a1 : Int32) (a2 : Int32) (a3 : Int32) (I : am_I) (L : am_L) (hf : fX11_resting_b21 n d m a1 a2 a3 I L = some (r, I', L')), am_J x (fun S => S = (some (.int r), (KC al), (RC al), I', L')) 21 [some (.ref 0), some (.int a1), some (.int a2), some (.int a3)] [] (KC al) (RC al) I L 0 0 := by
  induction m with
  | zero => intro a1 a2 a3 I L hf; exact (Option.some_ne_none _ hf.symm).elim
  | succ m ih => intro a1 a2 a3 I L hf; exact tX11_resting_b21w n d hc (fX11_resting_b21 n d m) ih a1 a2 a3 I L hf

set_option maxRecDepth 100000 in
def fX11_resting (n d : Nat) (a1 : Int32) (I : am_I) (L : am_L) : Option (Int32 × am_I × am_L) :=
  if (I 3 0) = 0 then
    (some ((-1 : Int32), I, L))
    else
    (if (-1 : Int32) ≤ a1 then
      (am_lt (0 : Int32) (fun v1 => am_lt (0 : Int32) (fun v2 => fX11_resting_b21 n d n a1 v1 v2 I L)))
      else
      (some ((-1 : Int32), I, L)))

set_option maxRecDepth 100000 in
set_option maxHeartbeats 4000000 in
theorem tX11_resting {x : am_X} {al : Bool} (n d : Nat) (hc : am_ok x cX11_resting yX11_resting 4 (some .int) (d + 3) 0 0) {r : Int32} {I' : am_I} {L' : am_L} (a1 : Int32) (I : am_I) (L : am_L) (hf : fX11_resting n d a1 I L = some (r, I', L')) : am_J x (fun S => S = (some (.int r), (KC al), (RC al), I', L')) 0 [some (.ref 0), some (.int a1), none, none] [] (KC al) (RC al) I L 0 0 := by
  unfold fX11_resting at hf
  refine j_aload_n hc dX11_resting_0 rfl ?_
  refine j_getR (u := 3) hc dX11_resting_1 (fgC_X11_19_0 _) (rC_0_1 _) ?_
  refine j_getI hc dX11_resting_4 (fgC_X11_151_3 _) ?_
  refine j_if_eq (tgt := 15) hc dX11_resting_7 rfl hf (fun hf => ?_) (fun hf => ?_)
  · refine j_iconst (v := (-1 : Int32)) hc dX11_resting_15 ci_m1 ?_
    exact j_ireturn hc dX11_resting_16 rfl rfl hf
  · refine j_iload_n hc dX11_resting_10 rfl ?_
    refine j_iconst (v := (-1 : Int32)) hc dX11_resting_11 ci_m1 ?_
    refine j_icmp_ge (tgt := 17) hc dX11_resting_12 rfl hf (fun hf => ?_) (fun hf => ?_)
    · refine j_iconst (v := (0 : Int32)) hc dX11_resting_17 ci_0 ?_
      refine j_istore_n hc dX11_resting_18 (Nat.le_of_ble_eq_true rfl) hf (fun v1 hf => ?_)
      refine j_iconst (v := (0 : Int32)) hc dX11_resting_19 ci_0 ?_
      refine j_istore_n hc dX11_resting_20 (Nat.le_of_ble_eq_true rfl) hf (fun v2 hf => ?_)
      exact j_sub (tX11_resting_b21 n d hc n _ _ _ _ _ hf) (And.intro rfl (And.intro rfl (And.intro rfl (And.intro rfl (trivial)))))
    · refine j_iconst (v := (-1 : Int32)) hc dX11_resting_15 ci_m1 ?_
      exact j_ireturn hc dX11_resting_16 rfl rfl hf

set_option maxRecDepth 100000 in
theorem qX11_resting (l : Launch) {al : Bool} (n d : Nat) (a1 : Int32) (I : am_I) (L : am_L) (r : Int32) (I' : am_I) (L' : am_L) (hf : fX11_resting n d a1 I L = some (r, I', L')) : am_C l yX11_resting cX11_resting 4 (some .int) (d + 3) [.ref 0, .int a1] (KC al) (RC al) I L (some (.int r)) I' L' := by
  exact am_intro (plainFor_of_name plX11) (fun _ _ => trivial) (Nat.le_of_ble_eq_true rfl) (fun x hl hc => by subst hl; exact j_sub (tX11_resting n d hc _ _ _ hf) (And.intro rfl (And.intro rfl (trivial))))
set_option maxRecDepth 100000 in
def fX4_add (n d : Nat) (a1 : Int32) (a2 : Int32) (I : am_I) (L : am_L) : Option (Int32 × am_I × am_L) :=
  if a1 < 0 then
    (some ((0 : Int32), I, L))
    else
    (if (20 : Int32) < a1 then
      (some ((0 : Int32), I, L))
      else
      (if a2 < 0 then
        (some ((0 : Int32), I, L))
        else
        (if (3 : Int32) < a2 then
          (some ((0 : Int32), I, L))
          else
          (if (I 60 5) < (10 : Int32) then
            (am_ck (I 60 5) 10 (am_lt (am_up I 61 ((I 60 5)).toNatClampNeg a1) (fun I1 => am_ck (I1 60 5) 10 (am_lt (am_up I1 62 ((I1 60 5)).toNatClampNeg a2) (fun I2 => am_lt (am_up I2 60 5 ((I2 60 5) + (1 : Int32))) (fun I3 => some ((1 : Int32), I3, L)))))))
            else
            (some ((0 : Int32), I, L))))))

set_option maxRecDepth 100000 in
set_option maxHeartbeats 4000000 in
theorem tX4_add {x : am_X} {al : Bool} (n d : Nat) (hc : am_ok x cX4_add yX4_add 3 (some .boolean) (d + 1) 0 0) {r : Int32} {I' : am_I} {L' : am_L} (a1 : Int32) (a2 : Int32) (I : am_I) (L : am_L) (hf : fX4_add n d a1 a2 I L = some (r, I', L')) : am_J x (fun S => S = (some (.int r), (KC al), (RC al), I', L')) 0 [some (.ref 60), some (.int a1), some (.int a2)] [] (KC al) (RC al) I L 0 0 := by
  unfold fX4_add at hf
  refine j_iload_n hc dX4_add_0 rfl ?_
  refine j_if_lt (tgt := 28) hc dX4_add_1 rfl hf (fun hf => ?_) (fun hf => ?_)
  · refine j_iconst (v := (0 : Int32)) hc dX4_add_28 ci_0 ?_
    exact j_zret hc dX4_add_29 rfl rfl (Or.inl rfl) hf
  · refine j_iload_n hc dX4_add_4 rfl ?_
    refine j_bipush (v := (20 : Int32)) hc dX4_add_5 cb_20 ?_
    refine j_icmp_gt (tgt := 28) hc dX4_add_7 rfl hf (fun hf => ?_) (fun hf => ?_)
    · refine j_iconst (v := (0 : Int32)) hc dX4_add_28 ci_0 ?_
      exact j_zret hc dX4_add_29 rfl rfl (Or.inl rfl) hf
    · refine j_iload_n hc dX4_add_10 rfl ?_
      refine j_if_lt (tgt := 28) hc dX4_add_11 rfl hf (fun hf => ?_) (fun hf => ?_)
      · refine j_iconst (v := (0 : Int32)) hc dX4_add_28 ci_0 ?_
        exact j_zret hc dX4_add_29 rfl rfl (Or.inl rfl) hf
      · refine j_iload_n hc dX4_add_14 rfl ?_
        refine j_iconst (v := (3 : Int32)) hc dX4_add_15 ci_3 ?_
        refine j_icmp_gt (tgt := 28) hc dX4_add_16 rfl hf (fun hf => ?_) (fun hf => ?_)
        · refine j_iconst (v := (0 : Int32)) hc dX4_add_28 ci_0 ?_
          exact j_zret hc dX4_add_29 rfl rfl (Or.inl rfl) hf
        · refine j_aload_n hc dX4_add_19 rfl ?_
          refine j_getI hc dX4_add_20 (fgC_X4_28_60 _) ?_
          refine j_bipush (v := (10 : Int32)) hc dX4_add_23 cb_10 ?_
          refine j_icmp_lt (tgt := 30) hc dX4_add_25 rfl hf (fun hf => ?_) (fun hf => ?_)
          · refine j_aload_n hc dX4_add_30 rfl ?_
            refine j_getR (u := 61) hc dX4_add_31 (fgC_X4_11_60 _) (rC_60_0 _) ?_
            refine j_aload_n hc dX4_add_34 rfl ?_
            refine j_getI hc dX4_add_35 (fgC_X4_28_60 _) ?_
            refine j_iload_n hc dX4_add_38 rfl ?_
            refine j_iastore (n := 10) hc dX4_add_39 (kC_61 _) hf (fun I1 hf => ?_)
            refine j_aload_n hc dX4_add_40 rfl ?_
            refine j_getR (u := 62) hc dX4_add_41 (fgC_X4_15_60 _) (rC_60_1 _) ?_
            refine j_aload_n hc dX4_add_44 rfl ?_
            refine j_getI hc dX4_add_45 (fgC_X4_28_60 _) ?_
            refine j_iload_n hc dX4_add_48 rfl ?_
            refine j_iastore (n := 10) hc dX4_add_49 (kC_62 _) hf (fun I2 hf => ?_)
            refine j_aload_n hc dX4_add_50 rfl ?_
            refine j_dup hc dX4_add_51 rfl ?_
            refine j_getI hc dX4_add_52 (fgC_X4_28_60 _) ?_
            refine j_iconst (v := (1 : Int32)) hc dX4_add_55 ci_1 ?_
            refine j_iadd hc dX4_add_56 ?_
            refine j_putI hc dX4_add_57 (fpC_X4_28_60 _) rfl rfl hf (fun I3 hf => ?_)
            refine j_iconst (v := (1 : Int32)) hc dX4_add_60 ci_1 ?_
            exact j_zret hc dX4_add_61 rfl rfl (Or.inr rfl) hf
          · refine j_iconst (v := (0 : Int32)) hc dX4_add_28 ci_0 ?_
            exact j_zret hc dX4_add_29 rfl rfl (Or.inl rfl) hf

set_option maxRecDepth 100000 in
theorem qX4_add (l : Launch) {al : Bool} (n d : Nat) (a1 : Int32) (a2 : Int32) (I : am_I) (L : am_L) (r : Int32) (I' : am_I) (L' : am_L) (hf : fX4_add n d a1 a2 I L = some (r, I', L')) : am_C l yX4_add cX4_add 3 (some .boolean) (d + 1) [.ref 60, .int a1, .int a2] (KC al) (RC al) I L (some (.int r)) I' L' := by
  exact am_intro (plainFor_of_name plX4) (fun _ _ => trivial) (Nat.le_of_ble_eq_true rfl) (fun x hl hc => by subst hl; exact j_sub (tX4_add n d hc _ _ _ _ hf) (And.intro rfl (And.intro rfl (And.intro rfl (trivial)))))
set_option maxRecDepth 100000 in
def fX11_letter (n d : Nat) (a1 : Int32) (a2 : Int32) (I : am_I) (L : am_L) : Option (Int32 × am_I × am_L) :=
  am_b3 (fX4_add n d a1 a2 I L) (fun v1 I1 L1 => if v1 = 0 then
    (some ((-1 : Int32), I1, L1))
    else
    (some ((I1 60 5), I1, L1)))

set_option maxRecDepth 100000 in
set_option maxHeartbeats 4000000 in
theorem tX11_letter {x : am_X} {al : Bool} (n d : Nat) (hc : am_ok x cX11_letter yX11_letter 3 (some .int) (d + 2) 0 0) {r : Int32} {I' : am_I} {L' : am_L} (a1 : Int32) (a2 : Int32) (I : am_I) (L : am_L) (hf : fX11_letter n d a1 a2 I L = some (r, I', L')) : am_J x (fun S => S = (some (.int r), (KC al), (RC al), I', L')) 0 [some (.ref 0), some (.int a1), some (.int a2)] [] (KC al) (RC al) I L 0 0 := by
  unfold fX11_letter at hf
  refine j_aload_n hc dX11_letter_0 rfl ?_
  refine j_getR (u := 60) hc dX11_letter_1 (fgC_X11_93_0 _) (rC_0_11 _) ?_
  refine j_iload_n hc dX11_letter_4 rfl ?_
  refine j_iload_n hc dX11_letter_5 rfl ?_
  refine j_callVI (t := 60) (As := [.int a1, .int a2]) hc dX11_letter_6 kw_1313 mX4_add (kC_60 _) clX4 rfl (by omega) (Nat.le_of_ble_eq_true rfl) (Nat.le_of_ble_eq_true rfl) ⟨Nat.le_refl _, Nat.le_refl _⟩ hf (fun v I' L' h => qX4_add x.2.1 n d a1 a2 I L v I' L' h) (fun v1 I1 L1 hf => ?_)
  refine j_if_eq (tgt := 22) hc dX11_letter_9 rfl hf (fun hf => ?_) (fun hf => ?_)
  · refine j_iconst (v := (-1 : Int32)) hc dX11_letter_22 ci_m1 ?_
    exact j_ireturn hc dX11_letter_23 rfl rfl hf
  · refine j_aload_n hc dX11_letter_12 rfl ?_
    refine j_getR (u := 60) hc dX11_letter_13 (fgC_X11_93_0 _) (rC_0_11 _) ?_
    refine j_getI hc dX11_letter_16 (fgC_X11_150_60 _) ?_
    refine j_goto (tgt := 23) hc dX11_letter_19 rfl ?_
    exact j_ireturn hc dX11_letter_23 rfl rfl hf

set_option maxRecDepth 100000 in
theorem qX11_letter (l : Launch) {al : Bool} (n d : Nat) (a1 : Int32) (a2 : Int32) (I : am_I) (L : am_L) (r : Int32) (I' : am_I) (L' : am_L) (hf : fX11_letter n d a1 a2 I L = some (r, I', L')) : am_C l yX11_letter cX11_letter 3 (some .int) (d + 2) [.ref 0, .int a1, .int a2] (KC al) (RC al) I L (some (.int r)) I' L' := by
  exact am_intro (plainFor_of_name plX11) (fun _ _ => trivial) (Nat.le_of_ble_eq_true rfl) (fun x hl hc => by subst hl; exact j_sub (tX11_letter n d hc _ _ _ _ hf) (And.intro rfl (And.intro rfl (And.intro rfl (trivial)))))
set_option maxRecDepth 100000 in
def fX4_isSize (n d : Nat) (a0 : Int32) (I : am_I) (L : am_L) : Option (Int32 × am_I × am_L) :=
  if a0 < (1 : Int32) then
    (some ((0 : Int32), I, L))
    else
    (if (3 : Int32) < a0 then
      (some ((0 : Int32), I, L))
      else
      (some ((1 : Int32), I, L)))

set_option maxRecDepth 100000 in
set_option maxHeartbeats 4000000 in
theorem tX4_isSize {x : am_X} {al : Bool} (n d : Nat) (hc : am_ok x cX4_isSize yX4_isSize 1 (some .boolean) (d + 1) 0 0) {r : Int32} {I' : am_I} {L' : am_L} (a0 : Int32) (I : am_I) (L : am_L) (hf : fX4_isSize n d a0 I L = some (r, I', L')) : am_J x (fun S => S = (some (.int r), (KC al), (RC al), I', L')) 0 [some (.int a0)] [] (KC al) (RC al) I L 0 0 := by
  unfold fX4_isSize at hf
  refine j_iload_n hc dX4_isSize_0 rfl ?_
  refine j_iconst (v := (1 : Int32)) hc dX4_isSize_1 ci_1 ?_
  refine j_icmp_lt (tgt := 14) hc dX4_isSize_2 rfl hf (fun hf => ?_) (fun hf => ?_)
  · refine j_iconst (v := (0 : Int32)) hc dX4_isSize_14 ci_0 ?_
    exact j_zret hc dX4_isSize_15 rfl rfl (Or.inl rfl) hf
  · refine j_iload_n hc dX4_isSize_5 rfl ?_
    refine j_iconst (v := (3 : Int32)) hc dX4_isSize_6 ci_3 ?_
    refine j_icmp_gt (tgt := 14) hc dX4_isSize_7 rfl hf (fun hf => ?_) (fun hf => ?_)
    · refine j_iconst (v := (0 : Int32)) hc dX4_isSize_14 ci_0 ?_
      exact j_zret hc dX4_isSize_15 rfl rfl (Or.inl rfl) hf
    · refine j_iconst (v := (1 : Int32)) hc dX4_isSize_10 ci_1 ?_
      refine j_goto (tgt := 15) hc dX4_isSize_11 rfl ?_
      exact j_zret hc dX4_isSize_15 rfl rfl (Or.inr rfl) hf

set_option maxRecDepth 100000 in
theorem qX4_isSize (l : Launch) {al : Bool} (n d : Nat) (a0 : Int32) (I : am_I) (L : am_L) (r : Int32) (I' : am_I) (L' : am_L) (hf : fX4_isSize n d a0 I L = some (r, I', L')) : am_C l yX4_isSize cX4_isSize 1 (some .boolean) (d + 1) [.int a0] (KC al) (RC al) I L (some (.int r)) I' L' := by
  exact am_intro (plainFor_of_name plX4) (fun _ _ => trivial) (Nat.le_of_ble_eq_true rfl) (fun x hl hc => by subst hl; exact j_sub (tX4_isSize n d hc _ _ _ hf) (And.intro rfl (trivial)))
set_option maxRecDepth 100000 in
def fX4_beginRows_b2w (n d : Nat) (k2 : Int32 → am_I → am_L → Option (am_I × am_L)) (a1 : Int32) (I : am_I) (L : am_L) : Option (am_I × am_L) :=
  if (3 : Int32) ≤ a1 then
    (some (I, L))
    else
    (am_ck a1 3 (am_lt (am_up I 63 (a1).toNatClampNeg (0 : Int32)) (fun I1 => am_lt (a1 + (1 : Int32)) (fun v2 => k2 v2 I1 L))))

set_option maxRecDepth 100000 in
set_option maxHeartbeats 4000000 in
theorem tX4_beginRows_b2w {x : am_X} {al : Bool} (n d : Nat) (hc : am_ok x cX4_beginRows yX4_beginRows 2 none (d + 1) 0 0) {I' : am_I} {L' : am_L} (k2 : Int32 → am_I → am_L → Option (am_I × am_L)) (hk2 : ∀ (a1 : Int32) (I : am_I) (L : am_L), k2 a1 I L = some (I', L') → am_J x (fun S => S = (none, (KC al), (RC al), I', L')) 2 [some (.ref 60), some (.int a1)] [] (KC al) (RC al) I L 0 0) (a1 : Int32) (I : am_I) (L : am_L) (hf : fX4_beginRows_b2w n d k2 a1 I L = some (I', L')) : am_J x (fun S => S = (none, (KC al), (RC al), I', L')) 2 [some (.ref 60), some (.int a1)] [] (KC al) (RC al) I L 0 0 := by
  unfold fX4_beginRows_b2w at hf
  refine j_iload_n hc dX4_beginRows_2 rfl ?_
  refine j_aload_n hc dX4_beginRows_3 rfl ?_
  refine j_getR (u := 63) hc dX4_beginRows_4 (fgC_X4_18_60 _) (rC_60_2 _) ?_
  refine j_alen0 (v := (3 : Int32)) hc dX4_beginRows_7 (kC_63 _) cn_3 ?_
  refine j_icmp_ge (tgt := 24) hc dX4_beginRows_8 rfl hf (fun hf => ?_) (fun hf => ?_)
  · exact j_return hc dX4_beginRows_24 rfl rfl hf
  · refine j_aload_n hc dX4_beginRows_11 rfl ?_
    refine j_getR (u := 63) hc dX4_beginRows_12 (fgC_X4_18_60 _) (rC_60_2 _) ?_
    refine j_iload_n hc dX4_beginRows_15 rfl ?_
    refine j_iconst (v := (0 : Int32)) hc dX4_beginRows_16 ci_0 ?_
    refine j_iastore (n := 3) hc dX4_beginRows_17 (kC_63 _) hf (fun I1 hf => ?_)
    refine j_iinc (w := (1 : Int32)) hc dX4_beginRows_18 rfl ci_1 (Nat.le_of_ble_eq_true rfl) hf (fun v2 hf => ?_)
    refine j_goto (tgt := 2) hc dX4_beginRows_21 rfl ?_
    exact j_sub (hk2 _ _ _ hf) (And.intro rfl (And.intro rfl (trivial)))

def fX4_beginRows_b2 (n d : Nat) : Nat → Int32 → am_I → am_L → Option (am_I × am_L)
  | 0 => fun _ _ _ => none
  | m + 1 => fX4_beginRows_b2w n d  (fX4_beginRows_b2 n d m)

set_option maxRecDepth 100000 in
theorem tX4_beginRows_b2 {x : am_X} {al : Bool} (n d : Nat) (hc : am_ok x cX4_beginRows yX4_beginRows 2 none (d + 1) 0 0) {I' : am_I} {L' : am_L} (m : Nat) : ∀ (a1 : Int32) (I : am_I) (L : am_L) (hf : fX4_beginRows_b2 n d m a1 I L = some (I', L')), am_J x (fun S => S = (none, (KC al), (RC al), I', L')) 2 [some (.ref 60), some (.int a1)] [] (KC al) (RC al) I L 0 0 := by
  induction m with
  | zero => intro a1 I L hf; exact (Option.some_ne_none _ hf.symm).elim
  | succ m ih => intro a1 I L hf; exact tX4_beginRows_b2w n d hc (fX4_beginRows_b2 n d m) ih a1 I L hf

set_option maxRecDepth 100000 in
def fX4_beginRows (n d : Nat) (I : am_I) (L : am_L) : Option (am_I × am_L) :=
  am_lt (0 : Int32) (fun v1 => fX4_beginRows_b2 n d n v1 I L)

set_option maxRecDepth 100000 in
set_option maxHeartbeats 4000000 in
theorem tX4_beginRows {x : am_X} {al : Bool} (n d : Nat) (hc : am_ok x cX4_beginRows yX4_beginRows 2 none (d + 1) 0 0) {I' : am_I} {L' : am_L} (I : am_I) (L : am_L) (hf : fX4_beginRows n d I L = some (I', L')) : am_J x (fun S => S = (none, (KC al), (RC al), I', L')) 0 [some (.ref 60), none] [] (KC al) (RC al) I L 0 0 := by
  unfold fX4_beginRows at hf
  refine j_iconst (v := (0 : Int32)) hc dX4_beginRows_0 ci_0 ?_
  refine j_istore_n hc dX4_beginRows_1 (Nat.le_of_ble_eq_true rfl) hf (fun v1 hf => ?_)
  exact j_sub (tX4_beginRows_b2 n d hc n _ _ _ hf) (And.intro rfl (And.intro rfl (trivial)))

set_option maxRecDepth 100000 in
theorem qX4_beginRows (l : Launch) {al : Bool} (n d : Nat) (I : am_I) (L : am_L) (I' : am_I) (L' : am_L) (hf : fX4_beginRows n d I L = some (I', L')) : am_C l yX4_beginRows cX4_beginRows 2 none (d + 1) [.ref 60] (KC al) (RC al) I L none I' L' := by
  exact am_intro (plainFor_of_name plX4) (fun _ _ => trivial) (Nat.le_of_ble_eq_true rfl) (fun x hl hc => by subst hl; exact j_sub (tX4_beginRows n d hc  _ _ hf) (And.intro rfl (trivial)))
set_option maxRecDepth 100000 in
def fX4_howMany_b34 (n d : Nat) (k5 : Int32 → Int32 → Int32 → Int32 → am_I → am_L → Option (Int32 × am_I × am_L)) (s0 : Int32) (s1 : Int32) (a1 : Int32) (a2 : Int32) (a4 : Int32) (I : am_I) (L : am_L) : Option (Int32 × am_I × am_L) :=
  am_lt (s0 + s1) (fun v1 => am_lt (a4 + (1 : Int32)) (fun v2 => k5 a1 a2 v1 v2 I L))

set_option maxRecDepth 100000 in
set_option maxHeartbeats 4000000 in
theorem tX4_howMany_b34 {x : am_X} {al : Bool} (n d : Nat) (hc : am_ok x cX4_howMany yX4_howMany 5 (some .int) (d + 1) 0 0) {r : Int32} {I' : am_I} {L' : am_L} (k5 : Int32 → Int32 → Int32 → Int32 → am_I → am_L → Option (Int32 × am_I × am_L)) (hk5 : ∀ (a1 : Int32) (a2 : Int32) (a3 : Int32) (a4 : Int32) (I : am_I) (L : am_L), k5 a1 a2 a3 a4 I L = some (r, I', L') → am_J x (fun S => S = (some (.int r), (KC al), (RC al), I', L')) 5 [some (.ref 60), some (.int a1), some (.int a2), some (.int a3), some (.int a4)] [] (KC al) (RC al) I L 0 0) (s0 : Int32) (s1 : Int32) (a1 : Int32) (a2 : Int32) (a4 : Int32) (I : am_I) (L : am_L) (hf : fX4_howMany_b34 n d k5 s0 s1 a1 a2 a4 I L = some (r, I', L')) : am_J x (fun S => S = (some (.int r), (KC al), (RC al), I', L')) 34 [some (.ref 60), some (.int a1), some (.int a2), none, some (.int a4)] [.int s1, .int s0] (KC al) (RC al) I L 0 0 := by
  unfold fX4_howMany_b34 at hf
  refine j_iadd hc dX4_howMany_34 ?_
  refine j_istore_n hc dX4_howMany_35 (Nat.le_of_ble_eq_true rfl) hf (fun v1 hf => ?_)
  refine j_iinc (w := (1 : Int32)) hc dX4_howMany_36 rfl ci_1 (Nat.le_of_ble_eq_true rfl) hf (fun v2 hf => ?_)
  refine j_goto (tgt := 5) hc dX4_howMany_39 rfl ?_
  exact j_sub (hk5 _ _ _ _ _ _ hf) (And.intro rfl (And.intro rfl (And.intro rfl (And.intro rfl (And.intro rfl (trivial))))))

set_option maxRecDepth 100000 in
def fX4_howMany_b5w (n d : Nat) (k5 : Int32 → Int32 → Int32 → Int32 → am_I → am_L → Option (Int32 × am_I × am_L)) (a1 : Int32) (a2 : Int32) (a3 : Int32) (a4 : Int32) (I : am_I) (L : am_L) : Option (Int32 × am_I × am_L) :=
  if a1 ≤ a4 then
    (some (a3, I, L))
    else
    (if (3 : Int32) ≤ a4 then
      (some (a3, I, L))
      else
      (am_ck a4 3 (am_lt (I 63 (a4).toNatClampNeg) (fun v1 => if a2 < v1 then
        (fX4_howMany_b34 n d k5 a3 (0 : Int32) a1 a2 a4 I L)
        else
        (fX4_howMany_b34 n d k5 a3 (1 : Int32) a1 a2 a4 I L)))))

set_option maxRecDepth 100000 in
set_option maxHeartbeats 4000000 in
theorem tX4_howMany_b5w {x : am_X} {al : Bool} (n d : Nat) (hc : am_ok x cX4_howMany yX4_howMany 5 (some .int) (d + 1) 0 0) {r : Int32} {I' : am_I} {L' : am_L} (k5 : Int32 → Int32 → Int32 → Int32 → am_I → am_L → Option (Int32 × am_I × am_L)) (hk5 : ∀ (a1 : Int32) (a2 : Int32) (a3 : Int32) (a4 : Int32) (I : am_I) (L : am_L), k5 a1 a2 a3 a4 I L = some (r, I', L') → am_J x (fun S => S = (some (.int r), (KC al), (RC al), I', L')) 5 [some (.ref 60), some (.int a1), some (.int a2), some (.int a3), some (.int a4)] [] (KC al) (RC al) I L 0 0) (a1 : Int32) (a2 : Int32) (a3 : Int32) (a4 : Int32) (I : am_I) (L : am_L) (hf : fX4_howMany_b5w n d k5 a1 a2 a3 a4 I L = some (r, I', L')) : am_J x (fun S => S = (some (.int r), (KC al), (RC al), I', L')) 5 [some (.ref 60), some (.int a1), some (.int a2), some (.int a3), some (.int a4)] [] (KC al) (RC al) I L 0 0 := by
  unfold fX4_howMany_b5w at hf
  refine j_iload hc dX4_howMany_5 rfl ?_
  refine j_iload_n hc dX4_howMany_7 rfl ?_
  refine j_icmp_ge (tgt := 42) hc dX4_howMany_8 rfl hf (fun hf => ?_) (fun hf => ?_)
  · refine j_iload_n hc dX4_howMany_42 rfl ?_
    exact j_ireturn hc dX4_howMany_43 rfl rfl hf
  · refine j_iload hc dX4_howMany_11 rfl ?_
    refine j_iconst (v := (3 : Int32)) hc dX4_howMany_13 ci_3 ?_
    refine j_icmp_ge (tgt := 42) hc dX4_howMany_14 rfl hf (fun hf => ?_) (fun hf => ?_)
    · refine j_iload_n hc dX4_howMany_42 rfl ?_
      exact j_ireturn hc dX4_howMany_43 rfl rfl hf
    · refine j_iload_n hc dX4_howMany_17 rfl ?_
      refine j_aload_n hc dX4_howMany_18 rfl ?_
      refine j_getR (u := 63) hc dX4_howMany_19 (fgC_X4_18_60 _) (rC_60_2 _) ?_
      refine j_iload hc dX4_howMany_22 rfl ?_
      refine j_iaload (n := 3) hc dX4_howMany_24 (kC_63 _) hf (fun v1 hf => ?_)
      refine j_iload_n hc dX4_howMany_25 rfl ?_
      refine j_icmp_gt (tgt := 33) hc dX4_howMany_26 rfl hf (fun hf => ?_) (fun hf => ?_)
      · refine j_iconst (v := (0 : Int32)) hc dX4_howMany_33 ci_0 ?_
        exact j_sub (tX4_howMany_b34 n d hc k5 hk5 _ _ _ _ _ _ _ hf) (And.intro rfl (And.intro rfl (And.intro rfl (And.intro rfl (trivial)))))
      · refine j_iconst (v := (1 : Int32)) hc dX4_howMany_29 ci_1 ?_
        refine j_goto (tgt := 34) hc dX4_howMany_30 rfl ?_
        exact j_sub (tX4_howMany_b34 n d hc k5 hk5 _ _ _ _ _ _ _ hf) (And.intro rfl (And.intro rfl (And.intro rfl (And.intro rfl (trivial)))))

def fX4_howMany_b5 (n d : Nat) : Nat → Int32 → Int32 → Int32 → Int32 → am_I → am_L → Option (Int32 × am_I × am_L)
  | 0 => fun _ _ _ _ _ _ => none
  | m + 1 => fX4_howMany_b5w n d  (fX4_howMany_b5 n d m)

set_option maxRecDepth 100000 in
theorem tX4_howMany_b5 {x : am_X} {al : Bool} (n d : Nat) (hc : am_ok x cX4_howMany yX4_howMany 5 (some .int) (d + 1) 0 0) {r : Int32} {I' : am_I} {L' : am_L} (m : Nat) : ∀ (a1 : Int32) (a2 : Int32) (a3 : Int32) (a4 : Int32) (I : am_I) (L : am_L) (hf : fX4_howMany_b5 n d m a1 a2 a3 a4 I L = some (r, I', L')), am_J x (fun S => S = (some (.int r), (KC al), (RC al), I', L')) 5 [some (.ref 60), some (.int a1), some (.int a2), some (.int a3), some (.int a4)] [] (KC al) (RC al) I L 0 0 := by
  induction m with
  | zero => intro a1 a2 a3 a4 I L hf; exact (Option.some_ne_none _ hf.symm).elim
  | succ m ih => intro a1 a2 a3 a4 I L hf; exact tX4_howMany_b5w n d hc (fX4_howMany_b5 n d m) ih a1 a2 a3 a4 I L hf

set_option maxRecDepth 100000 in
def fX4_howMany (n d : Nat) (a1 : Int32) (a2 : Int32) (I : am_I) (L : am_L) : Option (Int32 × am_I × am_L) :=
  am_lt (0 : Int32) (fun v1 => am_lt (0 : Int32) (fun v2 => fX4_howMany_b5 n d n a1 a2 v1 v2 I L))

set_option maxRecDepth 100000 in
set_option maxHeartbeats 4000000 in
theorem tX4_howMany {x : am_X} {al : Bool} (n d : Nat) (hc : am_ok x cX4_howMany yX4_howMany 5 (some .int) (d + 1) 0 0) {r : Int32} {I' : am_I} {L' : am_L} (a1 : Int32) (a2 : Int32) (I : am_I) (L : am_L) (hf : fX4_howMany n d a1 a2 I L = some (r, I', L')) : am_J x (fun S => S = (some (.int r), (KC al), (RC al), I', L')) 0 [some (.ref 60), some (.int a1), some (.int a2), none, none] [] (KC al) (RC al) I L 0 0 := by
  unfold fX4_howMany at hf
  refine j_iconst (v := (0 : Int32)) hc dX4_howMany_0 ci_0 ?_
  refine j_istore_n hc dX4_howMany_1 (Nat.le_of_ble_eq_true rfl) hf (fun v1 hf => ?_)
  refine j_iconst (v := (0 : Int32)) hc dX4_howMany_2 ci_0 ?_
  refine j_istore hc dX4_howMany_3 (Nat.le_of_ble_eq_true rfl) hf (fun v2 hf => ?_)
  exact j_sub (tX4_howMany_b5 n d hc n _ _ _ _ _ _ hf) (And.intro rfl (And.intro rfl (And.intro rfl (And.intro rfl (And.intro rfl (trivial))))))

set_option maxRecDepth 100000 in
theorem qX4_howMany (l : Launch) {al : Bool} (n d : Nat) (a1 : Int32) (a2 : Int32) (I : am_I) (L : am_L) (r : Int32) (I' : am_I) (L' : am_L) (hf : fX4_howMany n d a1 a2 I L = some (r, I', L')) : am_C l yX4_howMany cX4_howMany 5 (some .int) (d + 1) [.ref 60, .int a1, .int a2] (KC al) (RC al) I L (some (.int r)) I' L' := by
  exact am_intro (plainFor_of_name plX4) (fun _ _ => trivial) (Nat.le_of_ble_eq_true rfl) (fun x hl hc => by subst hl; exact j_sub (tX4_howMany n d hc _ _ _ _ hf) (And.intro rfl (And.intro rfl (And.intro rfl (trivial)))))
set_option maxRecDepth 100000 in
def fX4_rowFits_b2w (n d : Nat) (k2 : Int32 → Int32 → am_I → am_L → Option (Int32 × am_I × am_L)) (a1 : Int32) (a2 : Int32) (I : am_I) (L : am_L) : Option (Int32 × am_I × am_L) :=
  if (I 60 5) ≤ a2 then
    (some ((1 : Int32), I, L))
    else
    (if (10 : Int32) ≤ a2 then
      (some ((1 : Int32), I, L))
      else
      (am_ck a2 10 (am_lt (I 61 (a2).toNatClampNeg) (fun v1 => am_b3 (fX4_howMany n d a1 v1 I L) (fun v2 I2 L2 => am_ck a2 10 (am_lt (I2 62 (a2).toNatClampNeg) (fun v3 => if v2 = v3 then
        (am_lt (a2 + (1 : Int32)) (fun v4 => k2 a1 v4 I2 L2))
        else
        (some ((0 : Int32), I2, L2)))))))))

set_option maxRecDepth 100000 in
set_option maxHeartbeats 4000000 in
theorem tX4_rowFits_b2w {x : am_X} {al : Bool} (n d : Nat) (hc : am_ok x cX4_rowFits yX4_rowFits 3 (some .boolean) (d + 2) 0 0) {r : Int32} {I' : am_I} {L' : am_L} (k2 : Int32 → Int32 → am_I → am_L → Option (Int32 × am_I × am_L)) (hk2 : ∀ (a1 : Int32) (a2 : Int32) (I : am_I) (L : am_L), k2 a1 a2 I L = some (r, I', L') → am_J x (fun S => S = (some (.int r), (KC al), (RC al), I', L')) 2 [some (.ref 60), some (.int a1), some (.int a2)] [] (KC al) (RC al) I L 0 0) (a1 : Int32) (a2 : Int32) (I : am_I) (L : am_L) (hf : fX4_rowFits_b2w n d k2 a1 a2 I L = some (r, I', L')) : am_J x (fun S => S = (some (.int r), (KC al), (RC al), I', L')) 2 [some (.ref 60), some (.int a1), some (.int a2)] [] (KC al) (RC al) I L 0 0 := by
  unfold fX4_rowFits_b2w at hf
  refine j_iload_n hc dX4_rowFits_2 rfl ?_
  refine j_aload_n hc dX4_rowFits_3 rfl ?_
  refine j_getI hc dX4_rowFits_4 (fgC_X4_28_60 _) ?_
  refine j_icmp_ge (tgt := 44) hc dX4_rowFits_7 rfl hf (fun hf => ?_) (fun hf => ?_)
  · refine j_iconst (v := (1 : Int32)) hc dX4_rowFits_44 ci_1 ?_
    exact j_zret hc dX4_rowFits_45 rfl rfl (Or.inr rfl) hf
  · refine j_iload_n hc dX4_rowFits_10 rfl ?_
    refine j_bipush (v := (10 : Int32)) hc dX4_rowFits_11 cb_10 ?_
    refine j_icmp_ge (tgt := 44) hc dX4_rowFits_13 rfl hf (fun hf => ?_) (fun hf => ?_)
    · refine j_iconst (v := (1 : Int32)) hc dX4_rowFits_44 ci_1 ?_
      exact j_zret hc dX4_rowFits_45 rfl rfl (Or.inr rfl) hf
    · refine j_aload_n hc dX4_rowFits_16 rfl ?_
      refine j_iload_n hc dX4_rowFits_17 rfl ?_
      refine j_aload_n hc dX4_rowFits_18 rfl ?_
      refine j_getR (u := 61) hc dX4_rowFits_19 (fgC_X4_11_60 _) (rC_60_0 _) ?_
      refine j_iload_n hc dX4_rowFits_22 rfl ?_
      refine j_iaload (n := 10) hc dX4_rowFits_23 (kC_61 _) hf (fun v1 hf => ?_)
      refine j_callVI (t := 60) (As := [.int a1, .int v1]) hc dX4_rowFits_24 kw_1332 mX4_howMany (kC_60 _) clX4 rfl (by omega) (Nat.le_of_ble_eq_true rfl) (Nat.le_of_ble_eq_true rfl) ⟨Nat.le_refl _, Nat.le_refl _⟩ hf (fun v I' L' h => qX4_howMany x.2.1 n d a1 v1 I L v I' L' h) (fun v2 I2 L2 hf => ?_)
      refine j_aload_n hc dX4_rowFits_27 rfl ?_
      refine j_getR (u := 62) hc dX4_rowFits_28 (fgC_X4_15_60 _) (rC_60_1 _) ?_
      refine j_iload_n hc dX4_rowFits_31 rfl ?_
      refine j_iaload (n := 10) hc dX4_rowFits_32 (kC_62 _) hf (fun v3 hf => ?_)
      refine j_icmp_eq (tgt := 38) hc dX4_rowFits_33 rfl hf (fun hf => ?_) (fun hf => ?_)
      · refine j_iinc (w := (1 : Int32)) hc dX4_rowFits_38 rfl ci_1 (Nat.le_of_ble_eq_true rfl) hf (fun v4 hf => ?_)
        refine j_goto (tgt := 2) hc dX4_rowFits_41 rfl ?_
        exact j_sub (hk2 _ _ _ _ hf) (And.intro rfl (And.intro rfl (And.intro rfl (trivial))))
      · refine j_iconst (v := (0 : Int32)) hc dX4_rowFits_36 ci_0 ?_
        exact j_zret hc dX4_rowFits_37 rfl rfl (Or.inl rfl) hf

def fX4_rowFits_b2 (n d : Nat) : Nat → Int32 → Int32 → am_I → am_L → Option (Int32 × am_I × am_L)
  | 0 => fun _ _ _ _ => none
  | m + 1 => fX4_rowFits_b2w n d  (fX4_rowFits_b2 n d m)

set_option maxRecDepth 100000 in
theorem tX4_rowFits_b2 {x : am_X} {al : Bool} (n d : Nat) (hc : am_ok x cX4_rowFits yX4_rowFits 3 (some .boolean) (d + 2) 0 0) {r : Int32} {I' : am_I} {L' : am_L} (m : Nat) : ∀ (a1 : Int32) (a2 : Int32) (I : am_I) (L : am_L) (hf : fX4_rowFits_b2 n d m a1 a2 I L = some (r, I', L')), am_J x (fun S => S = (some (.int r), (KC al), (RC al), I', L')) 2 [some (.ref 60), some (.int a1), some (.int a2)] [] (KC al) (RC al) I L 0 0 := by
  induction m with
  | zero => intro a1 a2 I L hf; exact (Option.some_ne_none _ hf.symm).elim
  | succ m ih => intro a1 a2 I L hf; exact tX4_rowFits_b2w n d hc (fX4_rowFits_b2 n d m) ih a1 a2 I L hf

set_option maxRecDepth 100000 in
def fX4_rowFits (n d : Nat) (a1 : Int32) (I : am_I) (L : am_L) : Option (Int32 × am_I × am_L) :=
  am_lt (0 : Int32) (fun v1 => fX4_rowFits_b2 n d n a1 v1 I L)

set_option maxRecDepth 100000 in
set_option maxHeartbeats 4000000 in
theorem tX4_rowFits {x : am_X} {al : Bool} (n d : Nat) (hc : am_ok x cX4_rowFits yX4_rowFits 3 (some .boolean) (d + 2) 0 0) {r : Int32} {I' : am_I} {L' : am_L} (a1 : Int32) (I : am_I) (L : am_L) (hf : fX4_rowFits n d a1 I L = some (r, I', L')) : am_J x (fun S => S = (some (.int r), (KC al), (RC al), I', L')) 0 [some (.ref 60), some (.int a1), none] [] (KC al) (RC al) I L 0 0 := by
  unfold fX4_rowFits at hf
  refine j_iconst (v := (0 : Int32)) hc dX4_rowFits_0 ci_0 ?_
  refine j_istore_n hc dX4_rowFits_1 (Nat.le_of_ble_eq_true rfl) hf (fun v1 hf => ?_)
  exact j_sub (tX4_rowFits_b2 n d hc n _ _ _ _ hf) (And.intro rfl (And.intro rfl (And.intro rfl (trivial))))

set_option maxRecDepth 100000 in
theorem qX4_rowFits (l : Launch) {al : Bool} (n d : Nat) (a1 : Int32) (I : am_I) (L : am_L) (r : Int32) (I' : am_I) (L' : am_L) (hf : fX4_rowFits n d a1 I L = some (r, I', L')) : am_C l yX4_rowFits cX4_rowFits 3 (some .boolean) (d + 2) [.ref 60, .int a1] (KC al) (RC al) I L (some (.int r)) I' L' := by
  exact am_intro (plainFor_of_name plX4) (fun _ _ => trivial) (Nat.le_of_ble_eq_true rfl) (fun x hl hc => by subst hl; exact j_sub (tX4_rowFits n d hc _ _ _ hf) (And.intro rfl (And.intro rfl (trivial))))
set_option maxRecDepth 100000 in
def fX4_rowNumber_b4w (n d : Nat) (k4 : Int32 → Int32 → Int32 → am_I → am_L → Option (Int32 × am_I × am_L)) (a1 : Int32) (a2 : Int32) (a3 : Int32) (I : am_I) (L : am_L) : Option (Int32 × am_I × am_L) :=
  if a1 ≤ a3 then
    (some (a2, I, L))
    else
    (if (3 : Int32) ≤ a3 then
      (some (a2, I, L))
      else
      (am_ck a3 3 (am_lt (I 63 (a3).toNatClampNeg) (fun v1 => am_lt ((a2 * (21 : Int32)) + v1) (fun v2 => am_lt (a3 + (1 : Int32)) (fun v3 => k4 a1 v2 v3 I L))))))

set_option maxRecDepth 100000 in
set_option maxHeartbeats 4000000 in
theorem tX4_rowNumber_b4w {x : am_X} {al : Bool} (n d : Nat) (hc : am_ok x cX4_rowNumber yX4_rowNumber 4 (some .int) (d + 1) 0 0) {r : Int32} {I' : am_I} {L' : am_L} (k4 : Int32 → Int32 → Int32 → am_I → am_L → Option (Int32 × am_I × am_L)) (hk4 : ∀ (a1 : Int32) (a2 : Int32) (a3 : Int32) (I : am_I) (L : am_L), k4 a1 a2 a3 I L = some (r, I', L') → am_J x (fun S => S = (some (.int r), (KC al), (RC al), I', L')) 4 [some (.ref 60), some (.int a1), some (.int a2), some (.int a3)] [] (KC al) (RC al) I L 0 0) (a1 : Int32) (a2 : Int32) (a3 : Int32) (I : am_I) (L : am_L) (hf : fX4_rowNumber_b4w n d k4 a1 a2 a3 I L = some (r, I', L')) : am_J x (fun S => S = (some (.int r), (KC al), (RC al), I', L')) 4 [some (.ref 60), some (.int a1), some (.int a2), some (.int a3)] [] (KC al) (RC al) I L 0 0 := by
  unfold fX4_rowNumber_b4w at hf
  refine j_iload_n hc dX4_rowNumber_4 rfl ?_
  refine j_iload_n hc dX4_rowNumber_5 rfl ?_
  refine j_icmp_ge (tgt := 32) hc dX4_rowNumber_6 rfl hf (fun hf => ?_) (fun hf => ?_)
  · refine j_iload_n hc dX4_rowNumber_32 rfl ?_
    exact j_ireturn hc dX4_rowNumber_33 rfl rfl hf
  · refine j_iload_n hc dX4_rowNumber_9 rfl ?_
    refine j_iconst (v := (3 : Int32)) hc dX4_rowNumber_10 ci_3 ?_
    refine j_icmp_ge (tgt := 32) hc dX4_rowNumber_11 rfl hf (fun hf => ?_) (fun hf => ?_)
    · refine j_iload_n hc dX4_rowNumber_32 rfl ?_
      exact j_ireturn hc dX4_rowNumber_33 rfl rfl hf
    · refine j_iload_n hc dX4_rowNumber_14 rfl ?_
      refine j_bipush (v := (21 : Int32)) hc dX4_rowNumber_15 cb_21 ?_
      refine j_imul hc dX4_rowNumber_17 ?_
      refine j_aload_n hc dX4_rowNumber_18 rfl ?_
      refine j_getR (u := 63) hc dX4_rowNumber_19 (fgC_X4_18_60 _) (rC_60_2 _) ?_
      refine j_iload_n hc dX4_rowNumber_22 rfl ?_
      refine j_iaload (n := 3) hc dX4_rowNumber_23 (kC_63 _) hf (fun v1 hf => ?_)
      refine j_iadd hc dX4_rowNumber_24 ?_
      refine j_istore_n hc dX4_rowNumber_25 (Nat.le_of_ble_eq_true rfl) hf (fun v2 hf => ?_)
      refine j_iinc (w := (1 : Int32)) hc dX4_rowNumber_26 rfl ci_1 (Nat.le_of_ble_eq_true rfl) hf (fun v3 hf => ?_)
      refine j_goto (tgt := 4) hc dX4_rowNumber_29 rfl ?_
      exact j_sub (hk4 _ _ _ _ _ hf) (And.intro rfl (And.intro rfl (And.intro rfl (And.intro rfl (trivial)))))

def fX4_rowNumber_b4 (n d : Nat) : Nat → Int32 → Int32 → Int32 → am_I → am_L → Option (Int32 × am_I × am_L)
  | 0 => fun _ _ _ _ _ => none
  | m + 1 => fX4_rowNumber_b4w n d  (fX4_rowNumber_b4 n d m)

set_option maxRecDepth 100000 in
theorem tX4_rowNumber_b4 {x : am_X} {al : Bool} (n d : Nat) (hc : am_ok x cX4_rowNumber yX4_rowNumber 4 (some .int) (d + 1) 0 0) {r : Int32} {I' : am_I} {L' : am_L} (m : Nat) : ∀ (a1 : Int32) (a2 : Int32) (a3 : Int32) (I : am_I) (L : am_L) (hf : fX4_rowNumber_b4 n d m a1 a2 a3 I L = some (r, I', L')), am_J x (fun S => S = (some (.int r), (KC al), (RC al), I', L')) 4 [some (.ref 60), some (.int a1), some (.int a2), some (.int a3)] [] (KC al) (RC al) I L 0 0 := by
  induction m with
  | zero => intro a1 a2 a3 I L hf; exact (Option.some_ne_none _ hf.symm).elim
  | succ m ih => intro a1 a2 a3 I L hf; exact tX4_rowNumber_b4w n d hc (fX4_rowNumber_b4 n d m) ih a1 a2 a3 I L hf

set_option maxRecDepth 100000 in
def fX4_rowNumber (n d : Nat) (a1 : Int32) (I : am_I) (L : am_L) : Option (Int32 × am_I × am_L) :=
  am_lt (0 : Int32) (fun v1 => am_lt (0 : Int32) (fun v2 => fX4_rowNumber_b4 n d n a1 v1 v2 I L))

set_option maxRecDepth 100000 in
set_option maxHeartbeats 4000000 in
theorem tX4_rowNumber {x : am_X} {al : Bool} (n d : Nat) (hc : am_ok x cX4_rowNumber yX4_rowNumber 4 (some .int) (d + 1) 0 0) {r : Int32} {I' : am_I} {L' : am_L} (a1 : Int32) (I : am_I) (L : am_L) (hf : fX4_rowNumber n d a1 I L = some (r, I', L')) : am_J x (fun S => S = (some (.int r), (KC al), (RC al), I', L')) 0 [some (.ref 60), some (.int a1), none, none] [] (KC al) (RC al) I L 0 0 := by
  unfold fX4_rowNumber at hf
  refine j_iconst (v := (0 : Int32)) hc dX4_rowNumber_0 ci_0 ?_
  refine j_istore_n hc dX4_rowNumber_1 (Nat.le_of_ble_eq_true rfl) hf (fun v1 hf => ?_)
  refine j_iconst (v := (0 : Int32)) hc dX4_rowNumber_2 ci_0 ?_
  refine j_istore_n hc dX4_rowNumber_3 (Nat.le_of_ble_eq_true rfl) hf (fun v2 hf => ?_)
  exact j_sub (tX4_rowNumber_b4 n d hc n _ _ _ _ _ hf) (And.intro rfl (And.intro rfl (And.intro rfl (And.intro rfl (trivial)))))

set_option maxRecDepth 100000 in
theorem qX4_rowNumber (l : Launch) {al : Bool} (n d : Nat) (a1 : Int32) (I : am_I) (L : am_L) (r : Int32) (I' : am_I) (L' : am_L) (hf : fX4_rowNumber n d a1 I L = some (r, I', L')) : am_C l yX4_rowNumber cX4_rowNumber 4 (some .int) (d + 1) [.ref 60, .int a1] (KC al) (RC al) I L (some (.int r)) I' L' := by
  exact am_intro (plainFor_of_name plX4) (fun _ _ => trivial) (Nat.le_of_ble_eq_true rfl) (fun x hl hc => by subst hl; exact j_sub (tX4_rowNumber n d hc _ _ _ hf) (And.intro rfl (And.intro rfl (trivial))))
set_option maxRecDepth 100000 in
def fX4_nextRow_b37w (n d : Nat) (k37 : Int32 → Int32 → am_I → am_L → Option (Int32 × am_I × am_L)) (a2 : Int32) (a3 : Int32) (I : am_I) (L : am_L) : Option (Int32 × am_I × am_L) :=
  if (3 : Int32) ≤ a3 then
    (some ((1 : Int32), I, L))
    else
    (am_ck a2 3 (am_lt (I 63 (a2).toNatClampNeg) (fun v1 => am_ck a3 3 (am_lt (am_up I 63 (a3).toNatClampNeg v1) (fun I2 => am_lt (a3 + (1 : Int32)) (fun v3 => k37 a2 v3 I2 L))))))

set_option maxRecDepth 100000 in
set_option maxHeartbeats 4000000 in
theorem tX4_nextRow_b37w {x : am_X} {al : Bool} (n d : Nat) (hc : am_ok x cX4_nextRow yX4_nextRow 4 (some .boolean) (d + 2) 0 0) {r : Int32} {I' : am_I} {L' : am_L} (k37 : Int32 → Int32 → am_I → am_L → Option (Int32 × am_I × am_L)) (hk37 : ∀ (a2 : Int32) (a3 : Int32) (I : am_I) (L : am_L), k37 a2 a3 I L = some (r, I', L') → am_J x (fun S => S = (some (.int r), (KC al), (RC al), I', L')) 37 [some (.ref 60), none, some (.int a2), some (.int a3)] [] (KC al) (RC al) I L 0 0) (a2 : Int32) (a3 : Int32) (I : am_I) (L : am_L) (hf : fX4_nextRow_b37w n d k37 a2 a3 I L = some (r, I', L')) : am_J x (fun S => S = (some (.int r), (KC al), (RC al), I', L')) 37 [some (.ref 60), none, some (.int a2), some (.int a3)] [] (KC al) (RC al) I L 0 0 := by
  unfold fX4_nextRow_b37w at hf
  refine j_iload_n hc dX4_nextRow_37 rfl ?_
  refine j_aload_n hc dX4_nextRow_38 rfl ?_
  refine j_getR (u := 63) hc dX4_nextRow_39 (fgC_X4_18_60 _) (rC_60_2 _) ?_
  refine j_alen0 (v := (3 : Int32)) hc dX4_nextRow_42 (kC_63 _) cn_3 ?_
  refine j_icmp_ge (tgt := 64) hc dX4_nextRow_43 rfl hf (fun hf => ?_) (fun hf => ?_)
  · refine j_iconst (v := (1 : Int32)) hc dX4_nextRow_64 ci_1 ?_
    exact j_zret hc dX4_nextRow_65 rfl rfl (Or.inr rfl) hf
  · refine j_aload_n hc dX4_nextRow_46 rfl ?_
    refine j_getR (u := 63) hc dX4_nextRow_47 (fgC_X4_18_60 _) (rC_60_2 _) ?_
    refine j_iload_n hc dX4_nextRow_50 rfl ?_
    refine j_aload_n hc dX4_nextRow_51 rfl ?_
    refine j_getR (u := 63) hc dX4_nextRow_52 (fgC_X4_18_60 _) (rC_60_2 _) ?_
    refine j_iload_n hc dX4_nextRow_55 rfl ?_
    refine j_iaload (n := 3) hc dX4_nextRow_56 (kC_63 _) hf (fun v1 hf => ?_)
    refine j_iastore (n := 3) hc dX4_nextRow_57 (kC_63 _) hf (fun I2 hf => ?_)
    refine j_iinc (w := (1 : Int32)) hc dX4_nextRow_58 rfl ci_1 (Nat.le_of_ble_eq_true rfl) hf (fun v3 hf => ?_)
    refine j_goto (tgt := 37) hc dX4_nextRow_61 rfl ?_
    exact j_sub (hk37 _ _ _ _ hf) (And.intro rfl (And.intro rfl (And.intro rfl (trivial))))

def fX4_nextRow_b37 (n d : Nat) : Nat → Int32 → Int32 → am_I → am_L → Option (Int32 × am_I × am_L)
  | 0 => fun _ _ _ _ => none
  | m + 1 => fX4_nextRow_b37w n d  (fX4_nextRow_b37 n d m)

set_option maxRecDepth 100000 in
theorem tX4_nextRow_b37 {x : am_X} {al : Bool} (n d : Nat) (hc : am_ok x cX4_nextRow yX4_nextRow 4 (some .boolean) (d + 2) 0 0) {r : Int32} {I' : am_I} {L' : am_L} (m : Nat) : ∀ (a2 : Int32) (a3 : Int32) (I : am_I) (L : am_L) (hf : fX4_nextRow_b37 n d m a2 a3 I L = some (r, I', L')), am_J x (fun S => S = (some (.int r), (KC al), (RC al), I', L')) 37 [some (.ref 60), none, some (.int a2), some (.int a3)] [] (KC al) (RC al) I L 0 0 := by
  induction m with
  | zero => intro a2 a3 I L hf; exact (Option.some_ne_none _ hf.symm).elim
  | succ m ih => intro a2 a3 I L hf; exact tX4_nextRow_b37w n d hc (fX4_nextRow_b37 n d m) ih a2 a3 I L hf

set_option maxRecDepth 100000 in
def fX4_nextRow_b8w (n d : Nat) (k8 : Int32 → am_I → am_L → Option (Int32 × am_I × am_L)) (a2 : Int32) (I : am_I) (L : am_L) : Option (Int32 × am_I × am_L) :=
  if a2 < 0 then
    (some ((0 : Int32), I, L))
    else
    (am_ck a2 3 (am_lt (I 63 (a2).toNatClampNeg) (fun v1 => if (20 : Int32) ≤ v1 then
      (am_lt (a2 + (-1 : Int32)) (fun v2 => k8 v2 I L))
      else
      (am_ck a2 3 (am_lt (I 63 (a2).toNatClampNeg) (fun v3 => am_ck a2 3 (am_lt (am_up I 63 (a2).toNatClampNeg (v3 + (1 : Int32))) (fun I4 => am_lt (a2 + (1 : Int32)) (fun v5 => fX4_nextRow_b37 n d n a2 v5 I4 L)))))))))

set_option maxRecDepth 100000 in
set_option maxHeartbeats 4000000 in
theorem tX4_nextRow_b8w {x : am_X} {al : Bool} (n d : Nat) (hc : am_ok x cX4_nextRow yX4_nextRow 4 (some .boolean) (d + 2) 0 0) {r : Int32} {I' : am_I} {L' : am_L} (k8 : Int32 → am_I → am_L → Option (Int32 × am_I × am_L)) (hk8 : ∀ (a2 : Int32) (I : am_I) (L : am_L), k8 a2 I L = some (r, I', L') → am_J x (fun S => S = (some (.int r), (KC al), (RC al), I', L')) 8 [some (.ref 60), none, some (.int a2), none] [] (KC al) (RC al) I L 0 0) (a2 : Int32) (I : am_I) (L : am_L) (hf : fX4_nextRow_b8w n d k8 a2 I L = some (r, I', L')) : am_J x (fun S => S = (some (.int r), (KC al), (RC al), I', L')) 8 [some (.ref 60), none, some (.int a2), none] [] (KC al) (RC al) I L 0 0 := by
  unfold fX4_nextRow_b8w at hf
  refine j_iload_n hc dX4_nextRow_8 rfl ?_
  refine j_if_lt (tgt := 72) hc dX4_nextRow_9 rfl hf (fun hf => ?_) (fun hf => ?_)
  · refine j_iconst (v := (0 : Int32)) hc dX4_nextRow_72 ci_0 ?_
    exact j_zret hc dX4_nextRow_73 rfl rfl (Or.inl rfl) hf
  · refine j_aload_n hc dX4_nextRow_12 rfl ?_
    refine j_getR (u := 63) hc dX4_nextRow_13 (fgC_X4_18_60 _) (rC_60_2 _) ?_
    refine j_iload_n hc dX4_nextRow_16 rfl ?_
    refine j_iaload (n := 3) hc dX4_nextRow_17 (kC_63 _) hf (fun v1 hf => ?_)
    refine j_bipush (v := (20 : Int32)) hc dX4_nextRow_18 cb_20 ?_
    refine j_icmp_ge (tgt := 66) hc dX4_nextRow_20 rfl hf (fun hf => ?_) (fun hf => ?_)
    · refine j_iinc (w := (-1 : Int32)) hc dX4_nextRow_66 rfl ci_m1 (Nat.le_of_ble_eq_true rfl) hf (fun v2 hf => ?_)
      refine j_goto (tgt := 8) hc dX4_nextRow_69 rfl ?_
      exact j_sub (hk8 _ _ _ hf) (And.intro rfl (And.intro rfl (trivial)))
    · refine j_aload_n hc dX4_nextRow_23 rfl ?_
      refine j_getR (u := 63) hc dX4_nextRow_24 (fgC_X4_18_60 _) (rC_60_2 _) ?_
      refine j_iload_n hc dX4_nextRow_27 rfl ?_
      refine j_dup2 hc dX4_nextRow_28 rfl rfl ?_
      refine j_iaload (n := 3) hc dX4_nextRow_29 (kC_63 _) hf (fun v3 hf => ?_)
      refine j_iconst (v := (1 : Int32)) hc dX4_nextRow_30 ci_1 ?_
      refine j_iadd hc dX4_nextRow_31 ?_
      refine j_iastore (n := 3) hc dX4_nextRow_32 (kC_63 _) hf (fun I4 hf => ?_)
      refine j_iload_n hc dX4_nextRow_33 rfl ?_
      refine j_iconst (v := (1 : Int32)) hc dX4_nextRow_34 ci_1 ?_
      refine j_iadd hc dX4_nextRow_35 ?_
      refine j_istore_n hc dX4_nextRow_36 (Nat.le_of_ble_eq_true rfl) hf (fun v5 hf => ?_)
      exact j_sub (tX4_nextRow_b37 n d hc n _ _ _ _ hf) (And.intro rfl (And.intro rfl (And.intro rfl (trivial))))

def fX4_nextRow_b8 (n d : Nat) : Nat → Int32 → am_I → am_L → Option (Int32 × am_I × am_L)
  | 0 => fun _ _ _ => none
  | m + 1 => fX4_nextRow_b8w n d  (fX4_nextRow_b8 n d m)

set_option maxRecDepth 100000 in
theorem tX4_nextRow_b8 {x : am_X} {al : Bool} (n d : Nat) (hc : am_ok x cX4_nextRow yX4_nextRow 4 (some .boolean) (d + 2) 0 0) {r : Int32} {I' : am_I} {L' : am_L} (m : Nat) : ∀ (a2 : Int32) (I : am_I) (L : am_L) (hf : fX4_nextRow_b8 n d m a2 I L = some (r, I', L')), am_J x (fun S => S = (some (.int r), (KC al), (RC al), I', L')) 8 [some (.ref 60), none, some (.int a2), none] [] (KC al) (RC al) I L 0 0 := by
  induction m with
  | zero => intro a2 I L hf; exact (Option.some_ne_none _ hf.symm).elim
  | succ m ih => intro a2 I L hf; exact tX4_nextRow_b8w n d hc (fX4_nextRow_b8 n d m) ih a2 I L hf

set_option maxRecDepth 100000 in
def fX4_nextRow (n d : Nat) (a1 : Int32) (I : am_I) (L : am_L) : Option (Int32 × am_I × am_L) :=
  am_b3 (fJ9_min_7cf53 n d a1 (3 : Int32) I L) (fun v1 I1 L1 => am_lt (v1 - (1 : Int32)) (fun v2 => fX4_nextRow_b8 n d n v2 I1 L1))

set_option maxRecDepth 100000 in
set_option maxHeartbeats 4000000 in
theorem tX4_nextRow {x : am_X} {al : Bool} (n d : Nat) (hc : am_ok x cX4_nextRow yX4_nextRow 4 (some .boolean) (d + 2) 0 0) {r : Int32} {I' : am_I} {L' : am_L} (a1 : Int32) (I : am_I) (L : am_L) (hf : fX4_nextRow n d a1 I L = some (r, I', L')) : am_J x (fun S => S = (some (.int r), (KC al), (RC al), I', L')) 0 [some (.ref 60), some (.int a1), none, none] [] (KC al) (RC al) I L 0 0 := by
  unfold fX4_nextRow at hf
  refine j_iload_n hc dX4_nextRow_0 rfl ?_
  refine j_iconst (v := (3 : Int32)) hc dX4_nextRow_1 ci_3 ?_
  refine j_callSI (As := [.int a1, .int (3 : Int32)]) hc dX4_nextRow_2 kw_1344 mJ9_min_7cf53  rfl (by omega) (Nat.le_of_ble_eq_true rfl) (Nat.le_of_ble_eq_true rfl) ⟨Nat.le_refl _, Nat.le_refl _⟩ hf (fun v I' L' h => qJ9_min_7cf53 x.2.1 n d a1 (3 : Int32) I L v I' L' h) (fun v1 I1 L1 hf => ?_)
  refine j_iconst (v := (1 : Int32)) hc dX4_nextRow_5 ci_1 ?_
  refine j_isub hc dX4_nextRow_6 ?_
  refine j_istore_n hc dX4_nextRow_7 (Nat.le_of_ble_eq_true rfl) hf (fun v2 hf => ?_)
  exact j_sub (tX4_nextRow_b8 n d hc n _ _ _ hf) (And.intro rfl (And.intro rfl (trivial)))

set_option maxRecDepth 100000 in
theorem qX4_nextRow (l : Launch) {al : Bool} (n d : Nat) (a1 : Int32) (I : am_I) (L : am_L) (r : Int32) (I' : am_I) (L' : am_L) (hf : fX4_nextRow n d a1 I L = some (r, I', L')) : am_C l yX4_nextRow cX4_nextRow 4 (some .boolean) (d + 2) [.ref 60, .int a1] (KC al) (RC al) I L (some (.int r)) I' L' := by
  exact am_intro (plainFor_of_name plX4) (fun _ _ => trivial) (Nat.le_of_ble_eq_true rfl) (fun x hl hc => by subst hl; exact j_sub (tX4_nextRow n d hc _ _ _ hf) (And.intro rfl (And.intro rfl (trivial))))
set_option maxRecDepth 100000 in
def fX11_fit_b82 (n d : Nat) (a2 : Int32) (a3 : Int32) (I : am_I) (L : am_L) : Option (Int32 × am_I × am_L) :=
  if a2 = (-1 : Int32) then
    (some (a3, I, L))
    else
    (some ((-1 : Int32), I, L))

set_option maxRecDepth 100000 in
set_option maxHeartbeats 4000000 in
theorem tX11_fit_b82 {x : am_X} {al : Bool} (n d : Nat) (hc : am_ok x cX11_fit yX11_fit 5 (some .int) (d + 3) 0 0) {r : Int32} {I' : am_I} {L' : am_L} (a2 : Int32) (a3 : Int32) (I : am_I) (L : am_L) (hf : fX11_fit_b82 n d a2 a3 I L = some (r, I', L')) : am_J x (fun S => S = (some (.int r), (KC al), (RC al), I', L')) 82 [none, none, some (.int a2), some (.int a3), none] [] (KC al) (RC al) I L 0 0 := by
  unfold fX11_fit_b82 at hf
  refine j_iload_n hc dX11_fit_82 rfl ?_
  refine j_iconst (v := (-1 : Int32)) hc dX11_fit_83 ci_m1 ?_
  refine j_icmp_ne (tgt := 91) hc dX11_fit_84 rfl hf (fun hf => ?_) (fun hf => ?_)
  · refine j_iconst (v := (-1 : Int32)) hc dX11_fit_91 ci_m1 ?_
    exact j_ireturn hc dX11_fit_92 rfl rfl hf
  · refine j_iload_n hc dX11_fit_87 rfl ?_
    refine j_goto (tgt := 92) hc dX11_fit_88 rfl ?_
    exact j_ireturn hc dX11_fit_92 rfl rfl hf

set_option maxRecDepth 100000 in
def fX11_fit_b62 (n d : Nat) (k26 : Int32 → Int32 → Int32 → Int32 → am_I → am_L → Option (Int32 × am_I × am_L)) (a1 : Int32) (a2 : Int32) (a3 : Int32) (a4 : Int32) (I : am_I) (L : am_L) : Option (Int32 × am_I × am_L) :=
  am_b3 (fX4_nextRow n d a1 I L) (fun v1 I1 L1 => if v1 = 0 then
    (fX11_fit_b82 n d a2 a3 I1 L1)
    else
    (am_lt (a4 + (1 : Int32)) (fun v2 => k26 a1 a2 a3 v2 I1 L1)))

set_option maxRecDepth 100000 in
set_option maxHeartbeats 4000000 in
theorem tX11_fit_b62 {x : am_X} {al : Bool} (n d : Nat) (hc : am_ok x cX11_fit yX11_fit 5 (some .int) (d + 3) 0 0) {r : Int32} {I' : am_I} {L' : am_L} (k26 : Int32 → Int32 → Int32 → Int32 → am_I → am_L → Option (Int32 × am_I × am_L)) (hk26 : ∀ (a1 : Int32) (a2 : Int32) (a3 : Int32) (a4 : Int32) (I : am_I) (L : am_L), k26 a1 a2 a3 a4 I L = some (r, I', L') → am_J x (fun S => S = (some (.int r), (KC al), (RC al), I', L')) 26 [some (.ref 0), some (.int a1), some (.int a2), some (.int a3), some (.int a4)] [] (KC al) (RC al) I L 0 0) (a1 : Int32) (a2 : Int32) (a3 : Int32) (a4 : Int32) (I : am_I) (L : am_L) (hf : fX11_fit_b62 n d k26 a1 a2 a3 a4 I L = some (r, I', L')) : am_J x (fun S => S = (some (.int r), (KC al), (RC al), I', L')) 62 [some (.ref 0), some (.int a1), some (.int a2), some (.int a3), some (.int a4)] [] (KC al) (RC al) I L 0 0 := by
  unfold fX11_fit_b62 at hf
  refine j_aload_n hc dX11_fit_62 rfl ?_
  refine j_getR (u := 60) hc dX11_fit_63 (fgC_X11_93_0 _) (rC_0_11 _) ?_
  refine j_iload_n hc dX11_fit_66 rfl ?_
  refine j_callVI (t := 60) (As := [.int a1]) hc dX11_fit_67 kw_1340 mX4_nextRow (kC_60 _) clX4 rfl (by omega) (Nat.le_of_ble_eq_true rfl) (Nat.le_of_ble_eq_true rfl) ⟨Nat.le_refl _, Nat.le_refl _⟩ hf (fun v I' L' h => qX4_nextRow x.2.1 n d a1 I L v I' L' h) (fun v1 I1 L1 hf => ?_)
  refine j_if_ne (tgt := 76) hc dX11_fit_70 rfl hf (fun hf => ?_) (fun hf => ?_)
  · refine j_iinc (w := (1 : Int32)) hc dX11_fit_76 rfl ci_1 (Nat.le_of_ble_eq_true rfl) hf (fun v2 hf => ?_)
    refine j_goto (tgt := 26) hc dX11_fit_79 rfl ?_
    exact j_sub (hk26 _ _ _ _ _ _ hf) (And.intro rfl (And.intro rfl (And.intro rfl (And.intro rfl (And.intro rfl (trivial))))))
  · refine j_goto (tgt := 82) hc dX11_fit_73 rfl ?_
    exact j_sub (tX11_fit_b82 n d hc _ _ _ _ hf) (And.intro rfl (And.intro rfl (trivial)))

set_option maxRecDepth 100000 in
def fX11_fit_b26w (n d : Nat) (k26 : Int32 → Int32 → Int32 → Int32 → am_I → am_L → Option (Int32 × am_I × am_L)) (a1 : Int32) (a2 : Int32) (a3 : Int32) (a4 : Int32) (I : am_I) (L : am_L) : Option (Int32 × am_I × am_L) :=
  if (1771 : Int32) ≤ a4 then
    (fX11_fit_b82 n d a2 a3 I L)
    else
    (am_b3 (fX4_rowFits n d a1 I L) (fun v1 I1 L1 => if v1 = 0 then
      (fX11_fit_b62 n d k26 a1 a2 a3 a4 I1 L1)
      else
      (if a3 = a2 then
        (am_b3 (fX4_rowNumber n d a1 I1 L1) (fun v3 I3 L3 => some (v3, I3, L3)))
        else
        (am_lt (a3 + (1 : Int32)) (fun v2 => fX11_fit_b62 n d k26 a1 a2 v2 a4 I1 L1)))))

set_option maxRecDepth 100000 in
set_option maxHeartbeats 4000000 in
theorem tX11_fit_b26w {x : am_X} {al : Bool} (n d : Nat) (hc : am_ok x cX11_fit yX11_fit 5 (some .int) (d + 3) 0 0) {r : Int32} {I' : am_I} {L' : am_L} (k26 : Int32 → Int32 → Int32 → Int32 → am_I → am_L → Option (Int32 × am_I × am_L)) (hk26 : ∀ (a1 : Int32) (a2 : Int32) (a3 : Int32) (a4 : Int32) (I : am_I) (L : am_L), k26 a1 a2 a3 a4 I L = some (r, I', L') → am_J x (fun S => S = (some (.int r), (KC al), (RC al), I', L')) 26 [some (.ref 0), some (.int a1), some (.int a2), some (.int a3), some (.int a4)] [] (KC al) (RC al) I L 0 0) (a1 : Int32) (a2 : Int32) (a3 : Int32) (a4 : Int32) (I : am_I) (L : am_L) (hf : fX11_fit_b26w n d k26 a1 a2 a3 a4 I L = some (r, I', L')) : am_J x (fun S => S = (some (.int r), (KC al), (RC al), I', L')) 26 [some (.ref 0), some (.int a1), some (.int a2), some (.int a3), some (.int a4)] [] (KC al) (RC al) I L 0 0 := by
  unfold fX11_fit_b26w at hf
  refine j_iload hc dX11_fit_26 rfl ?_
  refine j_sipush (v := (1771 : Int32)) hc dX11_fit_28 cs_1771 ?_
  refine j_icmp_ge (tgt := 82) hc dX11_fit_31 rfl hf (fun hf => ?_) (fun hf => ?_)
  · exact j_sub (tX11_fit_b82 n d hc _ _ _ _ hf) (And.intro rfl (And.intro rfl (trivial)))
  · refine j_aload_n hc dX11_fit_34 rfl ?_
    refine j_getR (u := 60) hc dX11_fit_35 (fgC_X11_93_0 _) (rC_0_11 _) ?_
    refine j_iload_n hc dX11_fit_38 rfl ?_
    refine j_callVI (t := 60) (As := [.int a1]) hc dX11_fit_39 kw_1328 mX4_rowFits (kC_60 _) clX4 rfl (by omega) (Nat.le_of_ble_eq_true rfl) (Nat.le_of_ble_eq_true rfl) ⟨Nat.le_refl _, Nat.le_refl _⟩ hf (fun v I' L' h => qX4_rowFits x.2.1 n d a1 I L v I' L' h) (fun v1 I1 L1 hf => ?_)
    refine j_if_eq (tgt := 62) hc dX11_fit_42 rfl hf (fun hf => ?_) (fun hf => ?_)
    · exact j_sub (tX11_fit_b62 n d hc k26 hk26 _ _ _ _ _ _ hf) (And.intro rfl (And.intro rfl (And.intro rfl (And.intro rfl (And.intro rfl (trivial))))))
    · refine j_iload_n hc dX11_fit_45 rfl ?_
      refine j_iload_n hc dX11_fit_46 rfl ?_
      refine j_icmp_ne (tgt := 59) hc dX11_fit_47 rfl hf (fun hf => ?_) (fun hf => ?_)
      · refine j_iinc (w := (1 : Int32)) hc dX11_fit_59 rfl ci_1 (Nat.le_of_ble_eq_true rfl) hf (fun v2 hf => ?_)
        exact j_sub (tX11_fit_b62 n d hc k26 hk26 _ _ _ _ _ _ hf) (And.intro rfl (And.intro rfl (And.intro rfl (And.intro rfl (And.intro rfl (trivial))))))
      · refine j_aload_n hc dX11_fit_50 rfl ?_
        refine j_getR (u := 60) hc dX11_fit_51 (fgC_X11_93_0 _) (rC_0_11 _) ?_
        refine j_iload_n hc dX11_fit_54 rfl ?_
        refine j_callVI (t := 60) (As := [.int a1]) hc dX11_fit_55 kw_1336 mX4_rowNumber (kC_60 _) clX4 rfl (by omega) (Nat.le_of_ble_eq_true rfl) (Nat.le_of_ble_eq_true rfl) ⟨Nat.le_refl _, Nat.le_refl _⟩ hf (fun v I' L' h => qX4_rowNumber x.2.1 n d a1 I1 L1 v I' L' h) (fun v3 I3 L3 hf => ?_)
        exact j_ireturn hc dX11_fit_58 rfl rfl hf

def fX11_fit_b26 (n d : Nat) : Nat → Int32 → Int32 → Int32 → Int32 → am_I → am_L → Option (Int32 × am_I × am_L)
  | 0 => fun _ _ _ _ _ _ => none
  | m + 1 => fX11_fit_b26w n d  (fX11_fit_b26 n d m)

set_option maxRecDepth 100000 in
theorem tX11_fit_b26 {x : am_X} {al : Bool} (n d : Nat) (hc : am_ok x cX11_fit yX11_fit 5 (some .int) (d + 3) 0 0) {r : Int32} {I' : am_I} {L' : am_L} (m : Nat) : ∀ (a1 : Int32) (a2 : Int32) (a3 : Int32) (a4 : Int32) (I : am_I) (L : am_L) (hf : fX11_fit_b26 n d m a1 a2 a3 a4 I L = some (r, I', L')), am_J x (fun S => S = (some (.int r), (KC al), (RC al), I', L')) 26 [some (.ref 0), some (.int a1), some (.int a2), some (.int a3), some (.int a4)] [] (KC al) (RC al) I L 0 0 := by
  induction m with
  | zero => intro a1 a2 a3 a4 I L hf; exact (Option.some_ne_none _ hf.symm).elim
  | succ m ih => intro a1 a2 a3 a4 I L hf; exact tX11_fit_b26w n d hc (fX11_fit_b26 n d m) ih a1 a2 a3 a4 I L hf

set_option maxRecDepth 100000 in
def fX11_fit (n d : Nat) (a1 : Int32) (a2 : Int32) (I : am_I) (L : am_L) : Option (Int32 × am_I × am_L) :=
  am_b3 (fX4_isSize n d a1 I L) (fun v1 I1 L1 => if v1 = 0 then
    (some ((-1 : Int32), I1, L1))
    else
    (if (-1 : Int32) ≤ a2 then
      (am_lt (0 : Int32) (fun v2 => am_b2 (fX4_beginRows n d I1 L1) (fun I3 L3 => am_lt (0 : Int32) (fun v4 => fX11_fit_b26 n d n a1 a2 v2 v4 I3 L3))))
      else
      (some ((-1 : Int32), I1, L1))))

set_option maxRecDepth 100000 in
set_option maxHeartbeats 4000000 in
theorem tX11_fit {x : am_X} {al : Bool} (n d : Nat) (hc : am_ok x cX11_fit yX11_fit 5 (some .int) (d + 3) 0 0) {r : Int32} {I' : am_I} {L' : am_L} (a1 : Int32) (a2 : Int32) (I : am_I) (L : am_L) (hf : fX11_fit n d a1 a2 I L = some (r, I', L')) : am_J x (fun S => S = (some (.int r), (KC al), (RC al), I', L')) 0 [some (.ref 0), some (.int a1), some (.int a2), none, none] [] (KC al) (RC al) I L 0 0 := by
  unfold fX11_fit at hf
  refine j_iload_n hc dX11_fit_0 rfl ?_
  refine j_callSI (As := [.int a1]) hc dX11_fit_1 kw_1321 mX4_isSize  rfl (by omega) (Nat.le_of_ble_eq_true rfl) (Nat.le_of_ble_eq_true rfl) ⟨Nat.le_refl _, Nat.le_refl _⟩ hf (fun v I' L' h => qX4_isSize x.2.1 n d a1 I L v I' L' h) (fun v1 I1 L1 hf => ?_)
  refine j_if_eq (tgt := 12) hc dX11_fit_4 rfl hf (fun hf => ?_) (fun hf => ?_)
  · refine j_iconst (v := (-1 : Int32)) hc dX11_fit_12 ci_m1 ?_
    exact j_ireturn hc dX11_fit_13 rfl rfl hf
  · refine j_iload_n hc dX11_fit_7 rfl ?_
    refine j_iconst (v := (-1 : Int32)) hc dX11_fit_8 ci_m1 ?_
    refine j_icmp_ge (tgt := 14) hc dX11_fit_9 rfl hf (fun hf => ?_) (fun hf => ?_)
    · refine j_iconst (v := (0 : Int32)) hc dX11_fit_14 ci_0 ?_
      refine j_istore_n hc dX11_fit_15 (Nat.le_of_ble_eq_true rfl) hf (fun v2 hf => ?_)
      refine j_aload_n hc dX11_fit_16 rfl ?_
      refine j_getR (u := 60) hc dX11_fit_17 (fgC_X11_93_0 _) (rC_0_11 _) ?_
      refine j_callVV (t := 60) (As := []) hc dX11_fit_20 kw_1324 mX4_beginRows (kC_60 _) clX4 rfl (by omega) (Nat.le_of_ble_eq_true rfl) (Nat.le_of_ble_eq_true rfl) ⟨Nat.le_refl _, Nat.le_refl _⟩ hf (fun I' L' h => qX4_beginRows x.2.1 n d I1 L1 I' L' h) (fun I3 L3 hf => ?_)
      refine j_iconst (v := (0 : Int32)) hc dX11_fit_23 ci_0 ?_
      refine j_istore hc dX11_fit_24 (Nat.le_of_ble_eq_true rfl) hf (fun v4 hf => ?_)
      exact j_sub (tX11_fit_b26 n d hc n _ _ _ _ _ _ hf) (And.intro rfl (And.intro rfl (And.intro rfl (And.intro rfl (And.intro rfl (trivial))))))
    · refine j_iconst (v := (-1 : Int32)) hc dX11_fit_12 ci_m1 ?_
      exact j_ireturn hc dX11_fit_13 rfl rfl hf

set_option maxRecDepth 100000 in
theorem qX11_fit (l : Launch) {al : Bool} (n d : Nat) (a1 : Int32) (a2 : Int32) (I : am_I) (L : am_L) (r : Int32) (I' : am_I) (L' : am_L) (hf : fX11_fit n d a1 a2 I L = some (r, I', L')) : am_C l yX11_fit cX11_fit 5 (some .int) (d + 3) [.ref 0, .int a1, .int a2] (KC al) (RC al) I L (some (.int r)) I' L' := by
  exact am_intro (plainFor_of_name plX11) (fun _ _ => trivial) (Nat.le_of_ble_eq_true rfl) (fun x hl hc => by subst hl; exact j_sub (tX11_fit n d hc _ _ _ _ hf) (And.intro rfl (And.intro rfl (And.intro rfl (trivial)))))
set_option maxRecDepth 100000 in
def fX4_rowBits_b4w (n d : Nat) (k4 : Int32 → Int32 → Int32 → am_I → am_L → Option (Int32 × am_I × am_L)) (a1 : Int32) (a2 : Int32) (a3 : Int32) (I : am_I) (L : am_L) : Option (Int32 × am_I × am_L) :=
  if a1 ≤ a3 then
    (some (a2, I, L))
    else
    (if (3 : Int32) ≤ a3 then
      (some (a2, I, L))
      else
      (am_ck a3 3 (am_lt (I 63 (a3).toNatClampNeg) (fun v1 => am_lt (a2 ||| ((1 : Int32) <<< (v1 &&& 31))) (fun v2 => am_lt (a3 + (1 : Int32)) (fun v3 => k4 a1 v2 v3 I L))))))

set_option maxRecDepth 100000 in
set_option maxHeartbeats 4000000 in
theorem tX4_rowBits_b4w {x : am_X} {al : Bool} (n d : Nat) (hc : am_ok x cX4_rowBits yX4_rowBits 4 (some .int) (d + 1) 0 0) {r : Int32} {I' : am_I} {L' : am_L} (k4 : Int32 → Int32 → Int32 → am_I → am_L → Option (Int32 × am_I × am_L)) (hk4 : ∀ (a1 : Int32) (a2 : Int32) (a3 : Int32) (I : am_I) (L : am_L), k4 a1 a2 a3 I L = some (r, I', L') → am_J x (fun S => S = (some (.int r), (KC al), (RC al), I', L')) 4 [some (.ref 60), some (.int a1), some (.int a2), some (.int a3)] [] (KC al) (RC al) I L 0 0) (a1 : Int32) (a2 : Int32) (a3 : Int32) (I : am_I) (L : am_L) (hf : fX4_rowBits_b4w n d k4 a1 a2 a3 I L = some (r, I', L')) : am_J x (fun S => S = (some (.int r), (KC al), (RC al), I', L')) 4 [some (.ref 60), some (.int a1), some (.int a2), some (.int a3)] [] (KC al) (RC al) I L 0 0 := by
  unfold fX4_rowBits_b4w at hf
  refine j_iload_n hc dX4_rowBits_4 rfl ?_
  refine j_iload_n hc dX4_rowBits_5 rfl ?_
  refine j_icmp_ge (tgt := 31) hc dX4_rowBits_6 rfl hf (fun hf => ?_) (fun hf => ?_)
  · refine j_iload_n hc dX4_rowBits_31 rfl ?_
    exact j_ireturn hc dX4_rowBits_32 rfl rfl hf
  · refine j_iload_n hc dX4_rowBits_9 rfl ?_
    refine j_iconst (v := (3 : Int32)) hc dX4_rowBits_10 ci_3 ?_
    refine j_icmp_ge (tgt := 31) hc dX4_rowBits_11 rfl hf (fun hf => ?_) (fun hf => ?_)
    · refine j_iload_n hc dX4_rowBits_31 rfl ?_
      exact j_ireturn hc dX4_rowBits_32 rfl rfl hf
    · refine j_iload_n hc dX4_rowBits_14 rfl ?_
      refine j_iconst (v := (1 : Int32)) hc dX4_rowBits_15 ci_1 ?_
      refine j_aload_n hc dX4_rowBits_16 rfl ?_
      refine j_getR (u := 63) hc dX4_rowBits_17 (fgC_X4_18_60 _) (rC_60_2 _) ?_
      refine j_iload_n hc dX4_rowBits_20 rfl ?_
      refine j_iaload (n := 3) hc dX4_rowBits_21 (kC_63 _) hf (fun v1 hf => ?_)
      refine j_ishl hc dX4_rowBits_22 ?_
      refine j_ior hc dX4_rowBits_23 ?_
      refine j_istore_n hc dX4_rowBits_24 (Nat.le_of_ble_eq_true rfl) hf (fun v2 hf => ?_)
      refine j_iinc (w := (1 : Int32)) hc dX4_rowBits_25 rfl ci_1 (Nat.le_of_ble_eq_true rfl) hf (fun v3 hf => ?_)
      refine j_goto (tgt := 4) hc dX4_rowBits_28 rfl ?_
      exact j_sub (hk4 _ _ _ _ _ hf) (And.intro rfl (And.intro rfl (And.intro rfl (And.intro rfl (trivial)))))

def fX4_rowBits_b4 (n d : Nat) : Nat → Int32 → Int32 → Int32 → am_I → am_L → Option (Int32 × am_I × am_L)
  | 0 => fun _ _ _ _ _ => none
  | m + 1 => fX4_rowBits_b4w n d  (fX4_rowBits_b4 n d m)

set_option maxRecDepth 100000 in
theorem tX4_rowBits_b4 {x : am_X} {al : Bool} (n d : Nat) (hc : am_ok x cX4_rowBits yX4_rowBits 4 (some .int) (d + 1) 0 0) {r : Int32} {I' : am_I} {L' : am_L} (m : Nat) : ∀ (a1 : Int32) (a2 : Int32) (a3 : Int32) (I : am_I) (L : am_L) (hf : fX4_rowBits_b4 n d m a1 a2 a3 I L = some (r, I', L')), am_J x (fun S => S = (some (.int r), (KC al), (RC al), I', L')) 4 [some (.ref 60), some (.int a1), some (.int a2), some (.int a3)] [] (KC al) (RC al) I L 0 0 := by
  induction m with
  | zero => intro a1 a2 a3 I L hf; exact (Option.some_ne_none _ hf.symm).elim
  | succ m ih => intro a1 a2 a3 I L hf; exact tX4_rowBits_b4w n d hc (fX4_rowBits_b4 n d m) ih a1 a2 a3 I L hf

set_option maxRecDepth 100000 in
def fX4_rowBits (n d : Nat) (a1 : Int32) (I : am_I) (L : am_L) : Option (Int32 × am_I × am_L) :=
  am_lt (0 : Int32) (fun v1 => am_lt (0 : Int32) (fun v2 => fX4_rowBits_b4 n d n a1 v1 v2 I L))

set_option maxRecDepth 100000 in
set_option maxHeartbeats 4000000 in
theorem tX4_rowBits {x : am_X} {al : Bool} (n d : Nat) (hc : am_ok x cX4_rowBits yX4_rowBits 4 (some .int) (d + 1) 0 0) {r : Int32} {I' : am_I} {L' : am_L} (a1 : Int32) (I : am_I) (L : am_L) (hf : fX4_rowBits n d a1 I L = some (r, I', L')) : am_J x (fun S => S = (some (.int r), (KC al), (RC al), I', L')) 0 [some (.ref 60), some (.int a1), none, none] [] (KC al) (RC al) I L 0 0 := by
  unfold fX4_rowBits at hf
  refine j_iconst (v := (0 : Int32)) hc dX4_rowBits_0 ci_0 ?_
  refine j_istore_n hc dX4_rowBits_1 (Nat.le_of_ble_eq_true rfl) hf (fun v1 hf => ?_)
  refine j_iconst (v := (0 : Int32)) hc dX4_rowBits_2 ci_0 ?_
  refine j_istore_n hc dX4_rowBits_3 (Nat.le_of_ble_eq_true rfl) hf (fun v2 hf => ?_)
  exact j_sub (tX4_rowBits_b4 n d hc n _ _ _ _ _ hf) (And.intro rfl (And.intro rfl (And.intro rfl (And.intro rfl (trivial)))))

set_option maxRecDepth 100000 in
theorem qX4_rowBits (l : Launch) {al : Bool} (n d : Nat) (a1 : Int32) (I : am_I) (L : am_L) (r : Int32) (I' : am_I) (L' : am_L) (hf : fX4_rowBits n d a1 I L = some (r, I', L')) : am_C l yX4_rowBits cX4_rowBits 4 (some .int) (d + 1) [.ref 60, .int a1] (KC al) (RC al) I L (some (.int r)) I' L' := by
  exact am_intro (plainFor_of_name plX4) (fun _ _ => trivial) (Nat.le_of_ble_eq_true rfl) (fun x hl hc => by subst hl; exact j_sub (tX4_rowBits n d hc _ _ _ hf) (And.intro rfl (And.intro rfl (trivial))))
set_option maxRecDepth 100000 in
def fX4_tallyRow_b36 (n d : Nat) (k4 : Int32 → Int32 → Int32 → am_I → am_L → Option (am_I × am_L)) (a1 : Int32) (a2 : Int32) (a3 : Int32) (I : am_I) (L : am_L) : Option (am_I × am_L) :=
  am_ck ((a3 * (4 : Int32)) + a2) 84 (am_lt (I 64 (((a3 * (4 : Int32)) + a2)).toNatClampNeg) (fun v1 => am_ck ((a3 * (4 : Int32)) + a2) 84 (am_lt (am_up I 64 (((a3 * (4 : Int32)) + a2)).toNatClampNeg (v1 + (1 : Int32))) (fun I2 => am_lt (a3 + (1 : Int32)) (fun v3 => k4 a1 a2 v3 I2 L)))))

set_option maxRecDepth 100000 in
set_option maxHeartbeats 4000000 in
theorem tX4_tallyRow_b36 {x : am_X} {al : Bool} (n d : Nat) (hc : am_ok x cX4_tallyRow yX4_tallyRow 4 none (d + 1) 0 0) {I' : am_I} {L' : am_L} (k4 : Int32 → Int32 → Int32 → am_I → am_L → Option (am_I × am_L)) (hk4 : ∀ (a1 : Int32) (a2 : Int32) (a3 : Int32) (I : am_I) (L : am_L), k4 a1 a2 a3 I L = some (I', L') → am_J x (fun S => S = (none, (KC al), (RC al), I', L')) 4 [some (.ref 60), some (.int a1), some (.int a2), some (.int a3)] [] (KC al) (RC al) I L 0 0) (a1 : Int32) (a2 : Int32) (a3 : Int32) (I : am_I) (L : am_L) (hf : fX4_tallyRow_b36 n d k4 a1 a2 a3 I L = some (I', L')) : am_J x (fun S => S = (none, (KC al), (RC al), I', L')) 36 [some (.ref 60), some (.int a1), some (.int a2), some (.int a3)] [] (KC al) (RC al) I L 0 0 := by
  unfold fX4_tallyRow_b36 at hf
  refine j_aload_n hc dX4_tallyRow_36 rfl ?_
  refine j_getR (u := 64) hc dX4_tallyRow_37 (fgC_X4_21_60 _) (rC_60_3 _) ?_
  refine j_iload_n hc dX4_tallyRow_40 rfl ?_
  refine j_iconst (v := (4 : Int32)) hc dX4_tallyRow_41 ci_4 ?_
  refine j_imul hc dX4_tallyRow_42 ?_
  refine j_iload_n hc dX4_tallyRow_43 rfl ?_
  refine j_iadd hc dX4_tallyRow_44 ?_
  refine j_dup2 hc dX4_tallyRow_45 rfl rfl ?_
  refine j_iaload (n := 84) hc dX4_tallyRow_46 (kC_64 _) hf (fun v1 hf => ?_)
  refine j_iconst (v := (1 : Int32)) hc dX4_tallyRow_47 ci_1 ?_
  refine j_iadd hc dX4_tallyRow_48 ?_
  refine j_iastore (n := 84) hc dX4_tallyRow_49 (kC_64 _) hf (fun I2 hf => ?_)
  refine j_iinc (w := (1 : Int32)) hc dX4_tallyRow_50 rfl ci_1 (Nat.le_of_ble_eq_true rfl) hf (fun v3 hf => ?_)
  refine j_goto (tgt := 4) hc dX4_tallyRow_53 rfl ?_
  exact j_sub (hk4 _ _ _ _ _ hf) (And.intro rfl (And.intro rfl (And.intro rfl (And.intro rfl (trivial)))))

set_option maxRecDepth 100000 in
def fX4_tallyRow_b10w (n d : Nat) (k4 : Int32 → Int32 → Int32 → am_I → am_L → Option (am_I × am_L)) (k10 : Int32 → Int32 → Int32 → am_I → am_L → Option (am_I × am_L)) (a1 : Int32) (a2 : Int32) (a3 : Int32) (I : am_I) (L : am_L) : Option (am_I × am_L) :=
  if a1 ≤ a2 then
    (fX4_tallyRow_b36 n d k4 a1 a2 a3 I L)
    else
    (if (3 : Int32) ≤ a2 then
      (fX4_tallyRow_b36 n d k4 a1 a2 a3 I L)
      else
      (am_ck a2 3 (am_lt (I 63 (a2).toNatClampNeg) (fun v1 => if a3 < v1 then
        (fX4_tallyRow_b36 n d k4 a1 a2 a3 I L)
        else
        (am_lt (a2 + (1 : Int32)) (fun v2 => k10 a1 v2 a3 I L))))))

set_option maxRecDepth 100000 in
set_option maxHeartbeats 4000000 in
theorem tX4_tallyRow_b10w {x : am_X} {al : Bool} (n d : Nat) (hc : am_ok x cX4_tallyRow yX4_tallyRow 4 none (d + 1) 0 0) {I' : am_I} {L' : am_L} (k4 : Int32 → Int32 → Int32 → am_I → am_L → Option (am_I × am_L)) (k10 : Int32 → Int32 → Int32 → am_I → am_L → Option (am_I × am_L)) (hk4 : ∀ (a1 : Int32) (a2 : Int32) (a3 : Int32) (I : am_I) (L : am_L), k4 a1 a2 a3 I L = some (I', L') → am_J x (fun S => S = (none, (KC al), (RC al), I', L')) 4 [some (.ref 60), some (.int a1), some (.int a2), some (.int a3)] [] (KC al) (RC al) I L 0 0) (hk10 : ∀ (a1 : Int32) (a2 : Int32) (a3 : Int32) (I : am_I) (L : am_L), k10 a1 a2 a3 I L = some (I', L') → am_J x (fun S => S = (none, (KC al), (RC al), I', L')) 10 [some (.ref 60), some (.int a1), some (.int a2), some (.int a3)] [] (KC al) (RC al) I L 0 0) (a1 : Int32) (a2 : Int32) (a3 : Int32) (I : am_I) (L : am_L) (hf : fX4_tallyRow_b10w n d k4 k10 a1 a2 a3 I L = some (I', L')) : am_J x (fun S => S = (none, (KC al), (RC al), I', L')) 10 [some (.ref 60), some (.int a1), some (.int a2), some (.int a3)] [] (KC al) (RC al) I L 0 0 := by
  unfold fX4_tallyRow_b10w at hf
  refine j_iload_n hc dX4_tallyRow_10 rfl ?_
  refine j_iload_n hc dX4_tallyRow_11 rfl ?_
  refine j_icmp_ge (tgt := 36) hc dX4_tallyRow_12 rfl hf (fun hf => ?_) (fun hf => ?_)
  · exact j_sub (tX4_tallyRow_b36 n d hc k4 hk4 _ _ _ _ _ hf) (And.intro rfl (And.intro rfl (And.intro rfl (And.intro rfl (trivial)))))
  · refine j_iload_n hc dX4_tallyRow_15 rfl ?_
    refine j_iconst (v := (3 : Int32)) hc dX4_tallyRow_16 ci_3 ?_
    refine j_icmp_ge (tgt := 36) hc dX4_tallyRow_17 rfl hf (fun hf => ?_) (fun hf => ?_)
    · exact j_sub (tX4_tallyRow_b36 n d hc k4 hk4 _ _ _ _ _ hf) (And.intro rfl (And.intro rfl (And.intro rfl (And.intro rfl (trivial)))))
    · refine j_aload_n hc dX4_tallyRow_20 rfl ?_
      refine j_getR (u := 63) hc dX4_tallyRow_21 (fgC_X4_18_60 _) (rC_60_2 _) ?_
      refine j_iload_n hc dX4_tallyRow_24 rfl ?_
      refine j_iaload (n := 3) hc dX4_tallyRow_25 (kC_63 _) hf (fun v1 hf => ?_)
      refine j_iload_n hc dX4_tallyRow_26 rfl ?_
      refine j_icmp_gt (tgt := 36) hc dX4_tallyRow_27 rfl hf (fun hf => ?_) (fun hf => ?_)
      · exact j_sub (tX4_tallyRow_b36 n d hc k4 hk4 _ _ _ _ _ hf) (And.intro rfl (And.intro rfl (And.intro rfl (And.intro rfl (trivial)))))
      · refine j_iinc (w := (1 : Int32)) hc dX4_tallyRow_30 rfl ci_1 (Nat.le_of_ble_eq_true rfl) hf (fun v2 hf => ?_)
        refine j_goto (tgt := 10) hc dX4_tallyRow_33 rfl ?_
        exact j_sub (hk10 _ _ _ _ _ hf) (And.intro rfl (And.intro rfl (And.intro rfl (And.intro rfl (trivial)))))

def fX4_tallyRow_b10 (n d : Nat) (k4 : Int32 → Int32 → Int32 → am_I → am_L → Option (am_I × am_L)) : Nat → Int32 → Int32 → Int32 → am_I → am_L → Option (am_I × am_L)
  | 0 => fun _ _ _ _ _ => none
  | m + 1 => fX4_tallyRow_b10w n d  k4 (fX4_tallyRow_b10 n d k4 m)

set_option maxRecDepth 100000 in
theorem tX4_tallyRow_b10 {x : am_X} {al : Bool} (n d : Nat) (hc : am_ok x cX4_tallyRow yX4_tallyRow 4 none (d + 1) 0 0) {I' : am_I} {L' : am_L} (k4 : Int32 → Int32 → Int32 → am_I → am_L → Option (am_I × am_L)) (hk4 : ∀ (a1 : Int32) (a2 : Int32) (a3 : Int32) (I : am_I) (L : am_L), k4 a1 a2 a3 I L = some (I', L') → am_J x (fun S => S = (none, (KC al), (RC al), I', L')) 4 [some (.ref 60), some (.int a1), some (.int a2), some (.int a3)] [] (KC al) (RC al) I L 0 0) (m : Nat) : ∀ (a1 : Int32) (a2 : Int32) (a3 : Int32) (I : am_I) (L : am_L) (hf : fX4_tallyRow_b10 n d k4 m a1 a2 a3 I L = some (I', L')), am_J x (fun S => S = (none, (KC al), (RC al), I', L')) 10 [some (.ref 60), some (.int a1), some (.int a2), some (.int a3)] [] (KC al) (RC al) I L 0 0 := by
  induction m with
  | zero => intro a1 a2 a3 I L hf; exact (Option.some_ne_none _ hf.symm).elim
  | succ m ih => intro a1 a2 a3 I L hf; exact tX4_tallyRow_b10w n d hc k4 (fX4_tallyRow_b10 n d k4 m) hk4 ih a1 a2 a3 I L hf

set_option maxRecDepth 100000 in
def fX4_tallyRow_b4w (n d : Nat) (k4 : Int32 → Int32 → Int32 → am_I → am_L → Option (am_I × am_L)) (a1 : Int32) (a2 : Int32) (a3 : Int32) (I : am_I) (L : am_L) : Option (am_I × am_L) :=
  if (21 : Int32) ≤ a3 then
    (some (I, L))
    else
    (fX4_tallyRow_b10 n d k4 n a1 a2 a3 I L)

set_option maxRecDepth 100000 in
set_option maxHeartbeats 4000000 in
theorem tX4_tallyRow_b4w {x : am_X} {al : Bool} (n d : Nat) (hc : am_ok x cX4_tallyRow yX4_tallyRow 4 none (d + 1) 0 0) {I' : am_I} {L' : am_L} (k4 : Int32 → Int32 → Int32 → am_I → am_L → Option (am_I × am_L)) (hk4 : ∀ (a1 : Int32) (a2 : Int32) (a3 : Int32) (I : am_I) (L : am_L), k4 a1 a2 a3 I L = some (I', L') → am_J x (fun S => S = (none, (KC al), (RC al), I', L')) 4 [some (.ref 60), some (.int a1), some (.int a2), some (.int a3)] [] (KC al) (RC al) I L 0 0) (a1 : Int32) (a2 : Int32) (a3 : Int32) (I : am_I) (L : am_L) (hf : fX4_tallyRow_b4w n d k4 a1 a2 a3 I L = some (I', L')) : am_J x (fun S => S = (none, (KC al), (RC al), I', L')) 4 [some (.ref 60), some (.int a1), some (.int a2), some (.int a3)] [] (KC al) (RC al) I L 0 0 := by
  unfold fX4_tallyRow_b4w at hf
  refine j_iload_n hc dX4_tallyRow_4 rfl ?_
  refine j_bipush (v := (21 : Int32)) hc dX4_tallyRow_5 cb_21 ?_
  refine j_icmp_ge (tgt := 56) hc dX4_tallyRow_7 rfl hf (fun hf => ?_) (fun hf => ?_)
  · exact j_return hc dX4_tallyRow_56 rfl rfl hf
  · exact j_sub (tX4_tallyRow_b10 n d hc k4 hk4 n _ _ _ _ _ hf) (And.intro rfl (And.intro rfl (And.intro rfl (And.intro rfl (trivial)))))

def fX4_tallyRow_b4 (n d : Nat) : Nat → Int32 → Int32 → Int32 → am_I → am_L → Option (am_I × am_L)
  | 0 => fun _ _ _ _ _ => none
  | m + 1 => fX4_tallyRow_b4w n d  (fX4_tallyRow_b4 n d m)

set_option maxRecDepth 100000 in
theorem tX4_tallyRow_b4 {x : am_X} {al : Bool} (n d : Nat) (hc : am_ok x cX4_tallyRow yX4_tallyRow 4 none (d + 1) 0 0) {I' : am_I} {L' : am_L} (m : Nat) : ∀ (a1 : Int32) (a2 : Int32) (a3 : Int32) (I : am_I) (L : am_L) (hf : fX4_tallyRow_b4 n d m a1 a2 a3 I L = some (I', L')), am_J x (fun S => S = (none, (KC al), (RC al), I', L')) 4 [some (.ref 60), some (.int a1), some (.int a2), some (.int a3)] [] (KC al) (RC al) I L 0 0 := by
  induction m with
  | zero => intro a1 a2 a3 I L hf; exact (Option.some_ne_none _ hf.symm).elim
  | succ m ih => intro a1 a2 a3 I L hf; exact tX4_tallyRow_b4w n d hc (fX4_tallyRow_b4 n d m) ih a1 a2 a3 I L hf

set_option maxRecDepth 100000 in
def fX4_tallyRow (n d : Nat) (a1 : Int32) (I : am_I) (L : am_L) : Option (am_I × am_L) :=
  am_lt (0 : Int32) (fun v1 => am_lt (0 : Int32) (fun v2 => fX4_tallyRow_b4 n d n a1 v1 v2 I L))

set_option maxRecDepth 100000 in
set_option maxHeartbeats 4000000 in
theorem tX4_tallyRow {x : am_X} {al : Bool} (n d : Nat) (hc : am_ok x cX4_tallyRow yX4_tallyRow 4 none (d + 1) 0 0) {I' : am_I} {L' : am_L} (a1 : Int32) (I : am_I) (L : am_L) (hf : fX4_tallyRow n d a1 I L = some (I', L')) : am_J x (fun S => S = (none, (KC al), (RC al), I', L')) 0 [some (.ref 60), some (.int a1), none, none] [] (KC al) (RC al) I L 0 0 := by
  unfold fX4_tallyRow at hf
  refine j_iconst (v := (0 : Int32)) hc dX4_tallyRow_0 ci_0 ?_
  refine j_istore_n hc dX4_tallyRow_1 (Nat.le_of_ble_eq_true rfl) hf (fun v1 hf => ?_)
  refine j_iconst (v := (0 : Int32)) hc dX4_tallyRow_2 ci_0 ?_
  refine j_istore_n hc dX4_tallyRow_3 (Nat.le_of_ble_eq_true rfl) hf (fun v2 hf => ?_)
  exact j_sub (tX4_tallyRow_b4 n d hc n _ _ _ _ _ hf) (And.intro rfl (And.intro rfl (And.intro rfl (And.intro rfl (trivial)))))

set_option maxRecDepth 100000 in
theorem qX4_tallyRow (l : Launch) {al : Bool} (n d : Nat) (a1 : Int32) (I : am_I) (L : am_L) (I' : am_I) (L' : am_L) (hf : fX4_tallyRow n d a1 I L = some (I', L')) : am_C l yX4_tallyRow cX4_tallyRow 4 none (d + 1) [.ref 60, .int a1] (KC al) (RC al) I L none I' L' := by
  exact am_intro (plainFor_of_name plX4) (fun _ _ => trivial) (Nat.le_of_ble_eq_true rfl) (fun x hl hc => by subst hl; exact j_sub (tX4_tallyRow n d hc _ _ _ hf) (And.intro rfl (And.intro rfl (trivial))))
set_option maxRecDepth 100000 in
def fX4_tally_b75 (n d : Nat) (k38 : Int32 → Int32 → Int32 → am_I → am_L → Option (Int32 × am_I × am_L)) (a1 : Int32) (a2 : Int32) (a3 : Int32) (I : am_I) (L : am_L) : Option (Int32 × am_I × am_L) :=
  am_b3 (fX4_nextRow n d a1 I L) (fun v1 I1 L1 => if v1 = 0 then
    (some (a2, I1, L1))
    else
    (am_lt (a3 + (1 : Int32)) (fun v2 => k38 a1 a2 v2 I1 L1)))

set_option maxRecDepth 100000 in
set_option maxHeartbeats 4000000 in
theorem tX4_tally_b75 {x : am_X} {al : Bool} (n d : Nat) (hc : am_ok x cX4_tally yX4_tally 4 (some .int) (d + 3) 0 0) {r : Int32} {I' : am_I} {L' : am_L} (k38 : Int32 → Int32 → Int32 → am_I → am_L → Option (Int32 × am_I × am_L)) (hk38 : ∀ (a1 : Int32) (a2 : Int32) (a3 : Int32) (I : am_I) (L : am_L), k38 a1 a2 a3 I L = some (r, I', L') → am_J x (fun S => S = (some (.int r), (KC al), (RC al), I', L')) 38 [some (.ref 60), some (.int a1), some (.int a2), some (.int a3)] [] (KC al) (RC al) I L 0 0) (a1 : Int32) (a2 : Int32) (a3 : Int32) (I : am_I) (L : am_L) (hf : fX4_tally_b75 n d k38 a1 a2 a3 I L = some (r, I', L')) : am_J x (fun S => S = (some (.int r), (KC al), (RC al), I', L')) 75 [some (.ref 60), some (.int a1), some (.int a2), some (.int a3)] [] (KC al) (RC al) I L 0 0 := by
  unfold fX4_tally_b75 at hf
  refine j_aload_n hc dX4_tally_75 rfl ?_
  refine j_iload_n hc dX4_tally_76 rfl ?_
  refine j_callVI (t := 60) (As := [.int a1]) hc dX4_tally_77 kw_1364 mX4_nextRow (kC_60 _) clX4 rfl (by omega) (Nat.le_of_ble_eq_true rfl) (Nat.le_of_ble_eq_true rfl) ⟨Nat.le_refl _, Nat.le_refl _⟩ hf (fun v I' L' h => qX4_nextRow x.2.1 n d a1 I L v I' L' h) (fun v1 I1 L1 hf => ?_)
  refine j_if_ne (tgt := 86) hc dX4_tally_80 rfl hf (fun hf => ?_) (fun hf => ?_)
  · refine j_iinc (w := (1 : Int32)) hc dX4_tally_86 rfl ci_1 (Nat.le_of_ble_eq_true rfl) hf (fun v2 hf => ?_)
    refine j_goto (tgt := 38) hc dX4_tally_89 rfl ?_
    exact j_sub (hk38 _ _ _ _ _ hf) (And.intro rfl (And.intro rfl (And.intro rfl (And.intro rfl (trivial)))))
  · refine j_goto (tgt := 92) hc dX4_tally_83 rfl ?_
    refine j_iload_n hc dX4_tally_92 rfl ?_
    exact j_ireturn hc dX4_tally_93 rfl rfl hf

set_option maxRecDepth 100000 in
def fX4_tally_b38w (n d : Nat) (k38 : Int32 → Int32 → Int32 → am_I → am_L → Option (Int32 × am_I × am_L)) (a1 : Int32) (a2 : Int32) (a3 : Int32) (I : am_I) (L : am_L) : Option (Int32 × am_I × am_L) :=
  if (1771 : Int32) ≤ a3 then
    (some (a2, I, L))
    else
    (am_b3 (fX4_rowFits n d a1 I L) (fun v1 I1 L1 => if v1 = 0 then
      (fX4_tally_b75 n d k38 a1 a2 a3 I1 L1)
      else
      (am_lt (a2 + (1 : Int32)) (fun v2 => am_b3 (fX4_rowBits n d a1 I1 L1) (fun v3 I3 L3 => am_lt (am_up I3 60 4 ((I1 60 4) &&& v3)) (fun I4 => am_b2 (fX4_tallyRow n d a1 I4 L3) (fun I5 L5 => fX4_tally_b75 n d k38 a1 v2 a3 I5 L5)))))))

set_option maxRecDepth 100000 in
set_option maxHeartbeats 4000000 in
theorem tX4_tally_b38w {x : am_X} {al : Bool} (n d : Nat) (hc : am_ok x cX4_tally yX4_tally 4 (some .int) (d + 3) 0 0) {r : Int32} {I' : am_I} {L' : am_L} (k38 : Int32 → Int32 → Int32 → am_I → am_L → Option (Int32 × am_I × am_L)) (hk38 : ∀ (a1 : Int32) (a2 : Int32) (a3 : Int32) (I : am_I) (L : am_L), k38 a1 a2 a3 I L = some (r, I', L') → am_J x (fun S => S = (some (.int r), (KC al), (RC al), I', L')) 38 [some (.ref 60), some (.int a1), some (.int a2), some (.int a3)] [] (KC al) (RC al) I L 0 0) (a1 : Int32) (a2 : Int32) (a3 : Int32) (I : am_I) (L : am_L) (hf : fX4_tally_b38w n d k38 a1 a2 a3 I L = some (r, I', L')) : am_J x (fun S => S = (some (.int r), (KC al), (RC al), I', L')) 38 [some (.ref 60), some (.int a1), some (.int a2), some (.int a3)] [] (KC al) (RC al) I L 0 0 := by
  unfold fX4_tally_b38w at hf
  refine j_iload_n hc dX4_tally_38 rfl ?_
  refine j_sipush (v := (1771 : Int32)) hc dX4_tally_39 cs_1771 ?_
  refine j_icmp_ge (tgt := 92) hc dX4_tally_42 rfl hf (fun hf => ?_) (fun hf => ?_)
  · refine j_iload_n hc dX4_tally_92 rfl ?_
    exact j_ireturn hc dX4_tally_93 rfl rfl hf
  · refine j_aload_n hc dX4_tally_45 rfl ?_
    refine j_iload_n hc dX4_tally_46 rfl ?_
    refine j_callVI (t := 60) (As := [.int a1]) hc dX4_tally_47 kw_1355 mX4_rowFits (kC_60 _) clX4 rfl (by omega) (Nat.le_of_ble_eq_true rfl) (Nat.le_of_ble_eq_true rfl) ⟨Nat.le_refl _, Nat.le_refl _⟩ hf (fun v I' L' h => qX4_rowFits x.2.1 n d a1 I L v I' L' h) (fun v1 I1 L1 hf => ?_)
    refine j_if_eq (tgt := 75) hc dX4_tally_50 rfl hf (fun hf => ?_) (fun hf => ?_)
    · exact j_sub (tX4_tally_b75 n d hc k38 hk38 _ _ _ _ _ hf) (And.intro rfl (And.intro rfl (And.intro rfl (And.intro rfl (trivial)))))
    · refine j_iinc (w := (1 : Int32)) hc dX4_tally_53 rfl ci_1 (Nat.le_of_ble_eq_true rfl) hf (fun v2 hf => ?_)
      refine j_aload_n hc dX4_tally_56 rfl ?_
      refine j_dup hc dX4_tally_57 rfl ?_
      refine j_getI hc dX4_tally_58 (fgC_X4_24_60 _) ?_
      refine j_aload_n hc dX4_tally_61 rfl ?_
      refine j_iload_n hc dX4_tally_62 rfl ?_
      refine j_callVI (t := 60) (As := [.int a1]) hc dX4_tally_63 kw_1356 mX4_rowBits (kC_60 _) clX4 rfl (by omega) (Nat.le_of_ble_eq_true rfl) (Nat.le_of_ble_eq_true rfl) ⟨Nat.le_refl _, Nat.le_refl _⟩ hf (fun v I' L' h => qX4_rowBits x.2.1 n d a1 I1 L1 v I' L' h) (fun v3 I3 L3 hf => ?_)
      refine j_iand hc dX4_tally_66 ?_
      refine j_putI hc dX4_tally_67 (fpC_X4_24_60 _) rfl rfl hf (fun I4 hf => ?_)
      refine j_aload_n hc dX4_tally_70 rfl ?_
      refine j_iload_n hc dX4_tally_71 rfl ?_
      refine j_callVV (t := 60) (As := [.int a1]) hc dX4_tally_72 kw_1360 mX4_tallyRow (kC_60 _) clX4 rfl (by omega) (Nat.le_of_ble_eq_true rfl) (Nat.le_of_ble_eq_true rfl) ⟨Nat.le_refl _, Nat.le_refl _⟩ hf (fun I' L' h => qX4_tallyRow x.2.1 n d a1 I4 L3 I' L' h) (fun I5 L5 hf => ?_)
      exact j_sub (tX4_tally_b75 n d hc k38 hk38 _ _ _ _ _ hf) (And.intro rfl (And.intro rfl (And.intro rfl (And.intro rfl (trivial)))))

def fX4_tally_b38 (n d : Nat) : Nat → Int32 → Int32 → Int32 → am_I → am_L → Option (Int32 × am_I × am_L)
  | 0 => fun _ _ _ _ _ => none
  | m + 1 => fX4_tally_b38w n d  (fX4_tally_b38 n d m)

set_option maxRecDepth 100000 in
theorem tX4_tally_b38 {x : am_X} {al : Bool} (n d : Nat) (hc : am_ok x cX4_tally yX4_tally 4 (some .int) (d + 3) 0 0) {r : Int32} {I' : am_I} {L' : am_L} (m : Nat) : ∀ (a1 : Int32) (a2 : Int32) (a3 : Int32) (I : am_I) (L : am_L) (hf : fX4_tally_b38 n d m a1 a2 a3 I L = some (r, I', L')), am_J x (fun S => S = (some (.int r), (KC al), (RC al), I', L')) 38 [some (.ref 60), some (.int a1), some (.int a2), some (.int a3)] [] (KC al) (RC al) I L 0 0 := by
  induction m with
  | zero => intro a1 a2 a3 I L hf; exact (Option.some_ne_none _ hf.symm).elim
  | succ m ih => intro a1 a2 a3 I L hf; exact tX4_tally_b38w n d hc (fX4_tally_b38 n d m) ih a1 a2 a3 I L hf

set_option maxRecDepth 100000 in
def fX4_tally_b2w (n d : Nat) (k2 : Int32 → Int32 → am_I → am_L → Option (Int32 × am_I × am_L)) (a1 : Int32) (a2 : Int32) (I : am_I) (L : am_L) : Option (Int32 × am_I × am_L) :=
  if (84 : Int32) ≤ a2 then
    (am_lt (am_up I 60 4 (2097151 : Int32)) (fun I1 => am_lt (0 : Int32) (fun v2 => am_b2 (fX4_beginRows n d I1 L) (fun I3 L3 => am_lt (0 : Int32) (fun v4 => fX4_tally_b38 n d n a1 v2 v4 I3 L3)))))
    else
    (am_ck a2 84 (am_lt (am_up I 64 (a2).toNatClampNeg (0 : Int32)) (fun I5 => am_lt (a2 + (1 : Int32)) (fun v6 => k2 a1 v6 I5 L))))

set_option maxRecDepth 100000 in
set_option maxHeartbeats 4000000 in
theorem tX4_tally_b2w {x : am_X} {al : Bool} (n d : Nat) (hc : am_ok x cX4_tally yX4_tally 4 (some .int) (d + 3) 0 0) {r : Int32} {I' : am_I} {L' : am_L} (k2 : Int32 → Int32 → am_I → am_L → Option (Int32 × am_I × am_L)) (hk2 : ∀ (a1 : Int32) (a2 : Int32) (I : am_I) (L : am_L), k2 a1 a2 I L = some (r, I', L') → am_J x (fun S => S = (some (.int r), (KC al), (RC al), I', L')) 2 [some (.ref 60), some (.int a1), some (.int a2), none] [] (KC al) (RC al) I L 0 0) (a1 : Int32) (a2 : Int32) (I : am_I) (L : am_L) (hf : fX4_tally_b2w n d k2 a1 a2 I L = some (r, I', L')) : am_J x (fun S => S = (some (.int r), (KC al), (RC al), I', L')) 2 [some (.ref 60), some (.int a1), some (.int a2), none] [] (KC al) (RC al) I L 0 0 := by
  unfold fX4_tally_b2w at hf
  refine j_iload_n hc dX4_tally_2 rfl ?_
  refine j_aload_n hc dX4_tally_3 rfl ?_
  refine j_getR (u := 64) hc dX4_tally_4 (fgC_X4_21_60 _) (rC_60_3 _) ?_
  refine j_alen0 (v := (84 : Int32)) hc dX4_tally_7 (kC_64 _) cn_84 ?_
  refine j_icmp_ge (tgt := 24) hc dX4_tally_8 rfl hf (fun hf => ?_) (fun hf => ?_)
  · refine j_aload_n hc dX4_tally_24 rfl ?_
    refine j_ldc (v := (2097151 : Int32)) hc dX4_tally_25 kw_1353 ?_
    refine j_putI hc dX4_tally_27 (fpC_X4_24_60 _) rfl rfl hf (fun I1 hf => ?_)
    refine j_iconst (v := (0 : Int32)) hc dX4_tally_30 ci_0 ?_
    refine j_istore_n hc dX4_tally_31 (Nat.le_of_ble_eq_true rfl) hf (fun v2 hf => ?_)
    refine j_aload_n hc dX4_tally_32 rfl ?_
    refine j_callVV (t := 60) (As := []) hc dX4_tally_33 kw_1354 mX4_beginRows (kC_60 _) clX4 rfl (by omega) (Nat.le_of_ble_eq_true rfl) (Nat.le_of_ble_eq_true rfl) ⟨Nat.le_refl _, Nat.le_refl _⟩ hf (fun I' L' h => qX4_beginRows x.2.1 n d I1 L I' L' h) (fun I3 L3 hf => ?_)
    refine j_iconst (v := (0 : Int32)) hc dX4_tally_36 ci_0 ?_
    refine j_istore_n hc dX4_tally_37 (Nat.le_of_ble_eq_true rfl) hf (fun v4 hf => ?_)
    exact j_sub (tX4_tally_b38 n d hc n _ _ _ _ _ hf) (And.intro rfl (And.intro rfl (And.intro rfl (And.intro rfl (trivial)))))
  · refine j_aload_n hc dX4_tally_11 rfl ?_
    refine j_getR (u := 64) hc dX4_tally_12 (fgC_X4_21_60 _) (rC_60_3 _) ?_
    refine j_iload_n hc dX4_tally_15 rfl ?_
    refine j_iconst (v := (0 : Int32)) hc dX4_tally_16 ci_0 ?_
    refine j_iastore (n := 84) hc dX4_tally_17 (kC_64 _) hf (fun I5 hf => ?_)
    refine j_iinc (w := (1 : Int32)) hc dX4_tally_18 rfl ci_1 (Nat.le_of_ble_eq_true rfl) hf (fun v6 hf => ?_)
    refine j_goto (tgt := 2) hc dX4_tally_21 rfl ?_
    exact j_sub (hk2 _ _ _ _ hf) (And.intro rfl (And.intro rfl (And.intro rfl (trivial))))

def fX4_tally_b2 (n d : Nat) : Nat → Int32 → Int32 → am_I → am_L → Option (Int32 × am_I × am_L)
  | 0 => fun _ _ _ _ => none
  | m + 1 => fX4_tally_b2w n d  (fX4_tally_b2 n d m)

set_option maxRecDepth 100000 in
theorem tX4_tally_b2 {x : am_X} {al : Bool} (n d : Nat) (hc : am_ok x cX4_tally yX4_tally 4 (some .int) (d + 3) 0 0) {r : Int32} {I' : am_I} {L' : am_L} (m : Nat) : ∀ (a1 : Int32) (a2 : Int32) (I : am_I) (L : am_L) (hf : fX4_tally_b2 n d m a1 a2 I L = some (r, I', L')), am_J x (fun S => S = (some (.int r), (KC al), (RC al), I', L')) 2 [some (.ref 60), some (.int a1), some (.int a2), none] [] (KC al) (RC al) I L 0 0 := by
  induction m with
  | zero => intro a1 a2 I L hf; exact (Option.some_ne_none _ hf.symm).elim
  | succ m ih => intro a1 a2 I L hf; exact tX4_tally_b2w n d hc (fX4_tally_b2 n d m) ih a1 a2 I L hf

set_option maxRecDepth 100000 in
def fX4_tally (n d : Nat) (a1 : Int32) (I : am_I) (L : am_L) : Option (Int32 × am_I × am_L) :=
  am_lt (0 : Int32) (fun v1 => fX4_tally_b2 n d n a1 v1 I L)

set_option maxRecDepth 100000 in
set_option maxHeartbeats 4000000 in
theorem tX4_tally {x : am_X} {al : Bool} (n d : Nat) (hc : am_ok x cX4_tally yX4_tally 4 (some .int) (d + 3) 0 0) {r : Int32} {I' : am_I} {L' : am_L} (a1 : Int32) (I : am_I) (L : am_L) (hf : fX4_tally n d a1 I L = some (r, I', L')) : am_J x (fun S => S = (some (.int r), (KC al), (RC al), I', L')) 0 [some (.ref 60), some (.int a1), none, none] [] (KC al) (RC al) I L 0 0 := by
  unfold fX4_tally at hf
  refine j_iconst (v := (0 : Int32)) hc dX4_tally_0 ci_0 ?_
  refine j_istore_n hc dX4_tally_1 (Nat.le_of_ble_eq_true rfl) hf (fun v1 hf => ?_)
  exact j_sub (tX4_tally_b2 n d hc n _ _ _ _ hf) (And.intro rfl (And.intro rfl (And.intro rfl (trivial))))

set_option maxRecDepth 100000 in
theorem qX4_tally (l : Launch) {al : Bool} (n d : Nat) (a1 : Int32) (I : am_I) (L : am_L) (r : Int32) (I' : am_I) (L' : am_L) (hf : fX4_tally n d a1 I L = some (r, I', L')) : am_C l yX4_tally cX4_tally 4 (some .int) (d + 3) [.ref 60, .int a1] (KC al) (RC al) I L (some (.int r)) I' L' := by
  exact am_intro (plainFor_of_name plX4) (fun _ _ => trivial) (Nat.le_of_ble_eq_true rfl) (fun x hl hc => by subst hl; exact j_sub (tX4_tally n d hc _ _ _ hf) (And.intro rfl (And.intro rfl (trivial))))
set_option maxRecDepth 100000 in
def fX4_mostFrequent_b4w (n d : Nat) (k4 : Int32 → Int32 → Int32 → am_I → am_L → Option (Int32 × am_I × am_L)) (a1 : Int32) (a2 : Int32) (a3 : Int32) (I : am_I) (L : am_L) : Option (Int32 × am_I × am_L) :=
  if (4 : Int32) ≤ a3 then
    (some (a2, I, L))
    else
    (if a1 < 0 then
      (some (a2, I, L))
      else
      (if (21 : Int32) ≤ a1 then
        (some (a2, I, L))
        else
        (am_ck ((a1 * (4 : Int32)) + a3) 84 (am_lt (I 64 (((a1 * (4 : Int32)) + a3)).toNatClampNeg) (fun v1 => am_b3 (fJ9_max_7cf53 n d a2 v1 I L) (fun v2 I2 L2 => am_lt v2 (fun v3 => am_lt (a3 + (1 : Int32)) (fun v4 => k4 a1 v3 v4 I2 L2))))))))

set_option maxRecDepth 100000 in
set_option maxHeartbeats 4000000 in
theorem tX4_mostFrequent_b4w {x : am_X} {al : Bool} (n d : Nat) (hc : am_ok x cX4_mostFrequent yX4_mostFrequent 4 (some .int) (d + 2) 0 0) {r : Int32} {I' : am_I} {L' : am_L} (k4 : Int32 → Int32 → Int32 → am_I → am_L → Option (Int32 × am_I × am_L)) (hk4 : ∀ (a1 : Int32) (a2 : Int32) (a3 : Int32) (I : am_I) (L : am_L), k4 a1 a2 a3 I L = some (r, I', L') → am_J x (fun S => S = (some (.int r), (KC al), (RC al), I', L')) 4 [some (.ref 60), some (.int a1), some (.int a2), some (.int a3)] [] (KC al) (RC al) I L 0 0) (a1 : Int32) (a2 : Int32) (a3 : Int32) (I : am_I) (L : am_L) (hf : fX4_mostFrequent_b4w n d k4 a1 a2 a3 I L = some (r, I', L')) : am_J x (fun S => S = (some (.int r), (KC al), (RC al), I', L')) 4 [some (.ref 60), some (.int a1), some (.int a2), some (.int a3)] [] (KC al) (RC al) I L 0 0 := by
  unfold fX4_mostFrequent_b4w at hf
  refine j_iload_n hc dX4_mostFrequent_4 rfl ?_
  refine j_iconst (v := (4 : Int32)) hc dX4_mostFrequent_5 ci_4 ?_
  refine j_icmp_ge (tgt := 40) hc dX4_mostFrequent_6 rfl hf (fun hf => ?_) (fun hf => ?_)
  · refine j_iload_n hc dX4_mostFrequent_40 rfl ?_
    exact j_ireturn hc dX4_mostFrequent_41 rfl rfl hf
  · refine j_iload_n hc dX4_mostFrequent_9 rfl ?_
    refine j_if_lt (tgt := 40) hc dX4_mostFrequent_10 rfl hf (fun hf => ?_) (fun hf => ?_)
    · refine j_iload_n hc dX4_mostFrequent_40 rfl ?_
      exact j_ireturn hc dX4_mostFrequent_41 rfl rfl hf
    · refine j_iload_n hc dX4_mostFrequent_13 rfl ?_
      refine j_bipush (v := (21 : Int32)) hc dX4_mostFrequent_14 cb_21 ?_
      refine j_icmp_ge (tgt := 40) hc dX4_mostFrequent_16 rfl hf (fun hf => ?_) (fun hf => ?_)
      · refine j_iload_n hc dX4_mostFrequent_40 rfl ?_
        exact j_ireturn hc dX4_mostFrequent_41 rfl rfl hf
      · refine j_iload_n hc dX4_mostFrequent_19 rfl ?_
        refine j_aload_n hc dX4_mostFrequent_20 rfl ?_
        refine j_getR (u := 64) hc dX4_mostFrequent_21 (fgC_X4_21_60 _) (rC_60_3 _) ?_
        refine j_iload_n hc dX4_mostFrequent_24 rfl ?_
        refine j_iconst (v := (4 : Int32)) hc dX4_mostFrequent_25 ci_4 ?_
        refine j_imul hc dX4_mostFrequent_26 ?_
        refine j_iload_n hc dX4_mostFrequent_27 rfl ?_
        refine j_iadd hc dX4_mostFrequent_28 ?_
        refine j_iaload (n := 84) hc dX4_mostFrequent_29 (kC_64 _) hf (fun v1 hf => ?_)
        refine j_callSI (As := [.int a2, .int v1]) hc dX4_mostFrequent_30 kw_1373 mJ9_max_7cf53  rfl (by omega) (Nat.le_of_ble_eq_true rfl) (Nat.le_of_ble_eq_true rfl) ⟨Nat.le_refl _, Nat.le_refl _⟩ hf (fun v I' L' h => qJ9_max_7cf53 x.2.1 n d a2 v1 I L v I' L' h) (fun v2 I2 L2 hf => ?_)
        refine j_istore_n hc dX4_mostFrequent_33 (Nat.le_of_ble_eq_true rfl) hf (fun v3 hf => ?_)
        refine j_iinc (w := (1 : Int32)) hc dX4_mostFrequent_34 rfl ci_1 (Nat.le_of_ble_eq_true rfl) hf (fun v4 hf => ?_)
        refine j_goto (tgt := 4) hc dX4_mostFrequent_37 rfl ?_
        exact j_sub (hk4 _ _ _ _ _ hf) (And.intro rfl (And.intro rfl (And.intro rfl (And.intro rfl (trivial)))))

def fX4_mostFrequent_b4 (n d : Nat) : Nat → Int32 → Int32 → Int32 → am_I → am_L → Option (Int32 × am_I × am_L)
  | 0 => fun _ _ _ _ _ => none
  | m + 1 => fX4_mostFrequent_b4w n d  (fX4_mostFrequent_b4 n d m)

set_option maxRecDepth 100000 in
theorem tX4_mostFrequent_b4 {x : am_X} {al : Bool} (n d : Nat) (hc : am_ok x cX4_mostFrequent yX4_mostFrequent 4 (some .int) (d + 2) 0 0) {r : Int32} {I' : am_I} {L' : am_L} (m : Nat) : ∀ (a1 : Int32) (a2 : Int32) (a3 : Int32) (I : am_I) (L : am_L) (hf : fX4_mostFrequent_b4 n d m a1 a2 a3 I L = some (r, I', L')), am_J x (fun S => S = (some (.int r), (KC al), (RC al), I', L')) 4 [some (.ref 60), some (.int a1), some (.int a2), some (.int a3)] [] (KC al) (RC al) I L 0 0 := by
  induction m with
  | zero => intro a1 a2 a3 I L hf; exact (Option.some_ne_none _ hf.symm).elim
  | succ m ih => intro a1 a2 a3 I L hf; exact tX4_mostFrequent_b4w n d hc (fX4_mostFrequent_b4 n d m) ih a1 a2 a3 I L hf

set_option maxRecDepth 100000 in
def fX4_mostFrequent (n d : Nat) (a1 : Int32) (I : am_I) (L : am_L) : Option (Int32 × am_I × am_L) :=
  am_lt (0 : Int32) (fun v1 => am_lt (0 : Int32) (fun v2 => fX4_mostFrequent_b4 n d n a1 v1 v2 I L))

set_option maxRecDepth 100000 in
set_option maxHeartbeats 4000000 in
theorem tX4_mostFrequent {x : am_X} {al : Bool} (n d : Nat) (hc : am_ok x cX4_mostFrequent yX4_mostFrequent 4 (some .int) (d + 2) 0 0) {r : Int32} {I' : am_I} {L' : am_L} (a1 : Int32) (I : am_I) (L : am_L) (hf : fX4_mostFrequent n d a1 I L = some (r, I', L')) : am_J x (fun S => S = (some (.int r), (KC al), (RC al), I', L')) 0 [some (.ref 60), some (.int a1), none, none] [] (KC al) (RC al) I L 0 0 := by
  unfold fX4_mostFrequent at hf
  refine j_iconst (v := (0 : Int32)) hc dX4_mostFrequent_0 ci_0 ?_
  refine j_istore_n hc dX4_mostFrequent_1 (Nat.le_of_ble_eq_true rfl) hf (fun v1 hf => ?_)
  refine j_iconst (v := (0 : Int32)) hc dX4_mostFrequent_2 ci_0 ?_
  refine j_istore_n hc dX4_mostFrequent_3 (Nat.le_of_ble_eq_true rfl) hf (fun v2 hf => ?_)
  exact j_sub (tX4_mostFrequent_b4 n d hc n _ _ _ _ _ hf) (And.intro rfl (And.intro rfl (And.intro rfl (And.intro rfl (trivial)))))

set_option maxRecDepth 100000 in
theorem qX4_mostFrequent (l : Launch) {al : Bool} (n d : Nat) (a1 : Int32) (I : am_I) (L : am_L) (r : Int32) (I' : am_I) (L' : am_L) (hf : fX4_mostFrequent n d a1 I L = some (r, I', L')) : am_C l yX4_mostFrequent cX4_mostFrequent 4 (some .int) (d + 2) [.ref 60, .int a1] (KC al) (RC al) I L (some (.int r)) I' L' := by
  exact am_intro (plainFor_of_name plX4) (fun _ _ => trivial) (Nat.le_of_ble_eq_true rfl) (fun x hl hc => by subst hl; exact j_sub (tX4_mostFrequent n d hc _ _ _ hf) (And.intro rfl (And.intro rfl (trivial))))
set_option maxRecDepth 100000 in
def fX4_bestQuestion_b25 (n d : Nat) (k4 : Int32 → Int32 → am_I → am_L → Option (Int32 × am_I × am_L)) (a1 : Int32) (a2 : Int32) (I : am_I) (L : am_L) : Option (Int32 × am_I × am_L) :=
  am_lt (a2 + (1 : Int32)) (fun v1 => k4 a1 v1 I L)

set_option maxRecDepth 100000 in
set_option maxHeartbeats 4000000 in
theorem tX4_bestQuestion_b25 {x : am_X} {al : Bool} (n d : Nat) (hc : am_ok x cX4_bestQuestion yX4_bestQuestion 3 (some .int) (d + 3) 0 0) {r : Int32} {I' : am_I} {L' : am_L} (k4 : Int32 → Int32 → am_I → am_L → Option (Int32 × am_I × am_L)) (hk4 : ∀ (a1 : Int32) (a2 : Int32) (I : am_I) (L : am_L), k4 a1 a2 I L = some (r, I', L') → am_J x (fun S => S = (some (.int r), (KC al), (RC al), I', L')) 4 [some (.ref 60), some (.int a1), some (.int a2)] [] (KC al) (RC al) I L 0 0) (a1 : Int32) (a2 : Int32) (I : am_I) (L : am_L) (hf : fX4_bestQuestion_b25 n d k4 a1 a2 I L = some (r, I', L')) : am_J x (fun S => S = (some (.int r), (KC al), (RC al), I', L')) 25 [some (.ref 60), some (.int a1), some (.int a2)] [] (KC al) (RC al) I L 0 0 := by
  unfold fX4_bestQuestion_b25 at hf
  refine j_iinc (w := (1 : Int32)) hc dX4_bestQuestion_25 rfl ci_1 (Nat.le_of_ble_eq_true rfl) hf (fun v1 hf => ?_)
  refine j_goto (tgt := 4) hc dX4_bestQuestion_28 rfl ?_
  exact j_sub (hk4 _ _ _ _ hf) (And.intro rfl (And.intro rfl (And.intro rfl (trivial))))

set_option maxRecDepth 100000 in
def fX4_bestQuestion_b4w (n d : Nat) (k4 : Int32 → Int32 → am_I → am_L → Option (Int32 × am_I × am_L)) (a1 : Int32) (a2 : Int32) (I : am_I) (L : am_L) : Option (Int32 × am_I × am_L) :=
  if (21 : Int32) ≤ a2 then
    (some (a1, I, L))
    else
    (am_b3 (fX4_mostFrequent n d a2 I L) (fun v1 I1 L1 => am_b3 (fX4_mostFrequent n d a1 I1 L1) (fun v2 I2 L2 => if v2 ≤ v1 then
      (fX4_bestQuestion_b25 n d k4 a1 a2 I2 L2)
      else
      (am_lt a2 (fun v3 => fX4_bestQuestion_b25 n d k4 v3 a2 I2 L2)))))

set_option maxRecDepth 100000 in
set_option maxHeartbeats 4000000 in
theorem tX4_bestQuestion_b4w {x : am_X} {al : Bool} (n d : Nat) (hc : am_ok x cX4_bestQuestion yX4_bestQuestion 3 (some .int) (d + 3) 0 0) {r : Int32} {I' : am_I} {L' : am_L} (k4 : Int32 → Int32 → am_I → am_L → Option (Int32 × am_I × am_L)) (hk4 : ∀ (a1 : Int32) (a2 : Int32) (I : am_I) (L : am_L), k4 a1 a2 I L = some (r, I', L') → am_J x (fun S => S = (some (.int r), (KC al), (RC al), I', L')) 4 [some (.ref 60), some (.int a1), some (.int a2)] [] (KC al) (RC al) I L 0 0) (a1 : Int32) (a2 : Int32) (I : am_I) (L : am_L) (hf : fX4_bestQuestion_b4w n d k4 a1 a2 I L = some (r, I', L')) : am_J x (fun S => S = (some (.int r), (KC al), (RC al), I', L')) 4 [some (.ref 60), some (.int a1), some (.int a2)] [] (KC al) (RC al) I L 0 0 := by
  unfold fX4_bestQuestion_b4w at hf
  refine j_iload_n hc dX4_bestQuestion_4 rfl ?_
  refine j_bipush (v := (21 : Int32)) hc dX4_bestQuestion_5 cb_21 ?_
  refine j_icmp_ge (tgt := 31) hc dX4_bestQuestion_7 rfl hf (fun hf => ?_) (fun hf => ?_)
  · refine j_iload_n hc dX4_bestQuestion_31 rfl ?_
    exact j_ireturn hc dX4_bestQuestion_32 rfl rfl hf
  · refine j_aload_n hc dX4_bestQuestion_10 rfl ?_
    refine j_iload_n hc dX4_bestQuestion_11 rfl ?_
    refine j_callVI (t := 60) (As := [.int a2]) hc dX4_bestQuestion_12 kw_1369 mX4_mostFrequent (kC_60 _) clX4 rfl (by omega) (Nat.le_of_ble_eq_true rfl) (Nat.le_of_ble_eq_true rfl) ⟨Nat.le_refl _, Nat.le_refl _⟩ hf (fun v I' L' h => qX4_mostFrequent x.2.1 n d a2 I L v I' L' h) (fun v1 I1 L1 hf => ?_)
    refine j_aload_n hc dX4_bestQuestion_15 rfl ?_
    refine j_iload_n hc dX4_bestQuestion_16 rfl ?_
    refine j_callVI (t := 60) (As := [.int a1]) hc dX4_bestQuestion_17 kw_1369 mX4_mostFrequent (kC_60 _) clX4 rfl (by omega) (Nat.le_of_ble_eq_true rfl) (Nat.le_of_ble_eq_true rfl) ⟨Nat.le_refl _, Nat.le_refl _⟩ hf (fun v I' L' h => qX4_mostFrequent x.2.1 n d a1 I1 L1 v I' L' h) (fun v2 I2 L2 hf => ?_)
    refine j_icmp_ge (tgt := 25) hc dX4_bestQuestion_20 rfl hf (fun hf => ?_) (fun hf => ?_)
    · exact j_sub (tX4_bestQuestion_b25 n d hc k4 hk4 _ _ _ _ hf) (And.intro rfl (And.intro rfl (And.intro rfl (trivial))))
    · refine j_iload_n hc dX4_bestQuestion_23 rfl ?_
      refine j_istore_n hc dX4_bestQuestion_24 (Nat.le_of_ble_eq_true rfl) hf (fun v3 hf => ?_)
      exact j_sub (tX4_bestQuestion_b25 n d hc k4 hk4 _ _ _ _ hf) (And.intro rfl (And.intro rfl (And.intro rfl (trivial))))

def fX4_bestQuestion_b4 (n d : Nat) : Nat → Int32 → Int32 → am_I → am_L → Option (Int32 × am_I × am_L)
  | 0 => fun _ _ _ _ => none
  | m + 1 => fX4_bestQuestion_b4w n d  (fX4_bestQuestion_b4 n d m)

set_option maxRecDepth 100000 in
theorem tX4_bestQuestion_b4 {x : am_X} {al : Bool} (n d : Nat) (hc : am_ok x cX4_bestQuestion yX4_bestQuestion 3 (some .int) (d + 3) 0 0) {r : Int32} {I' : am_I} {L' : am_L} (m : Nat) : ∀ (a1 : Int32) (a2 : Int32) (I : am_I) (L : am_L) (hf : fX4_bestQuestion_b4 n d m a1 a2 I L = some (r, I', L')), am_J x (fun S => S = (some (.int r), (KC al), (RC al), I', L')) 4 [some (.ref 60), some (.int a1), some (.int a2)] [] (KC al) (RC al) I L 0 0 := by
  induction m with
  | zero => intro a1 a2 I L hf; exact (Option.some_ne_none _ hf.symm).elim
  | succ m ih => intro a1 a2 I L hf; exact tX4_bestQuestion_b4w n d hc (fX4_bestQuestion_b4 n d m) ih a1 a2 I L hf

set_option maxRecDepth 100000 in
def fX4_bestQuestion (n d : Nat) (I : am_I) (L : am_L) : Option (Int32 × am_I × am_L) :=
  am_lt (0 : Int32) (fun v1 => am_lt (1 : Int32) (fun v2 => fX4_bestQuestion_b4 n d n v1 v2 I L))

set_option maxRecDepth 100000 in
set_option maxHeartbeats 4000000 in
theorem tX4_bestQuestion {x : am_X} {al : Bool} (n d : Nat) (hc : am_ok x cX4_bestQuestion yX4_bestQuestion 3 (some .int) (d + 3) 0 0) {r : Int32} {I' : am_I} {L' : am_L} (I : am_I) (L : am_L) (hf : fX4_bestQuestion n d I L = some (r, I', L')) : am_J x (fun S => S = (some (.int r), (KC al), (RC al), I', L')) 0 [some (.ref 60), none, none] [] (KC al) (RC al) I L 0 0 := by
  unfold fX4_bestQuestion at hf
  refine j_iconst (v := (0 : Int32)) hc dX4_bestQuestion_0 ci_0 ?_
  refine j_istore_n hc dX4_bestQuestion_1 (Nat.le_of_ble_eq_true rfl) hf (fun v1 hf => ?_)
  refine j_iconst (v := (1 : Int32)) hc dX4_bestQuestion_2 ci_1 ?_
  refine j_istore_n hc dX4_bestQuestion_3 (Nat.le_of_ble_eq_true rfl) hf (fun v2 hf => ?_)
  exact j_sub (tX4_bestQuestion_b4 n d hc n _ _ _ _ hf) (And.intro rfl (And.intro rfl (And.intro rfl (trivial))))

set_option maxRecDepth 100000 in
theorem qX4_bestQuestion (l : Launch) {al : Bool} (n d : Nat) (I : am_I) (L : am_L) (r : Int32) (I' : am_I) (L' : am_L) (hf : fX4_bestQuestion n d I L = some (r, I', L')) : am_C l yX4_bestQuestion cX4_bestQuestion 3 (some .int) (d + 3) [.ref 60] (KC al) (RC al) I L (some (.int r)) I' L' := by
  exact am_intro (plainFor_of_name plX4) (fun _ _ => trivial) (Nat.le_of_ble_eq_true rfl) (fun x hl hc => by subst hl; exact j_sub (tX4_bestQuestion n d hc  _ _ hf) (And.intro rfl (trivial)))
set_option maxRecDepth 100000 in
def fX11_ask (n d : Nat) (a1 : Int32) (a2 : Int32) (I : am_I) (L : am_L) : Option (Int32 × am_I × am_L) :=
  am_b3 (fX4_isSize n d a1 I L) (fun v1 I1 L1 => if v1 = 0 then
    (some ((-1 : Int32), I1, L1))
    else
    (if a2 < 0 then
      (some ((-1 : Int32), I1, L1))
      else
      (if a2 ≤ (1 : Int32) then
        (am_b3 (fX4_tally n d a1 I1 L1) (fun v2 I2 L2 => if v2 = 0 then
          (some ((-1 : Int32), I2, L2))
          else
          (am_b3 (fX4_bestQuestion n d I2 L2) (fun v3 I3 L3 => am_lt v3 (fun v4 => if a2 = 0 then
            (some (v4, I3, L3))
            else
            (am_b3 (fX4_mostFrequent n d v4 I3 L3) (fun v5 I5 L5 => some (v5, I5, L5))))))))
        else
        (some ((-1 : Int32), I1, L1)))))

set_option maxRecDepth 100000 in
set_option maxHeartbeats 4000000 in
theorem tX11_ask {x : am_X} {al : Bool} (n d : Nat) (hc : am_ok x cX11_ask yX11_ask 4 (some .int) (d + 4) 0 0) {r : Int32} {I' : am_I} {L' : am_L} (a1 : Int32) (a2 : Int32) (I : am_I) (L : am_L) (hf : fX11_ask n d a1 a2 I L = some (r, I', L')) : am_J x (fun S => S = (some (.int r), (KC al), (RC al), I', L')) 0 [some (.ref 0), some (.int a1), some (.int a2), none] [] (KC al) (RC al) I L 0 0 := by
  unfold fX11_ask at hf
  refine j_iload_n hc dX11_ask_0 rfl ?_
  refine j_callSI (As := [.int a1]) hc dX11_ask_1 kw_1321 mX4_isSize  rfl (by omega) (Nat.le_of_ble_eq_true rfl) (Nat.le_of_ble_eq_true rfl) ⟨Nat.le_refl _, Nat.le_refl _⟩ hf (fun v I' L' h => qX4_isSize x.2.1 n d a1 I L v I' L' h) (fun v1 I1 L1 hf => ?_)
  refine j_if_eq (tgt := 16) hc dX11_ask_4 rfl hf (fun hf => ?_) (fun hf => ?_)
  · refine j_iconst (v := (-1 : Int32)) hc dX11_ask_16 ci_m1 ?_
    exact j_ireturn hc dX11_ask_17 rfl rfl hf
  · refine j_iload_n hc dX11_ask_7 rfl ?_
    refine j_if_lt (tgt := 16) hc dX11_ask_8 rfl hf (fun hf => ?_) (fun hf => ?_)
    · refine j_iconst (v := (-1 : Int32)) hc dX11_ask_16 ci_m1 ?_
      exact j_ireturn hc dX11_ask_17 rfl rfl hf
    · refine j_iload_n hc dX11_ask_11 rfl ?_
      refine j_iconst (v := (1 : Int32)) hc dX11_ask_12 ci_1 ?_
      refine j_icmp_le (tgt := 18) hc dX11_ask_13 rfl hf (fun hf => ?_) (fun hf => ?_)
      · refine j_aload_n hc dX11_ask_18 rfl ?_
        refine j_getR (u := 60) hc dX11_ask_19 (fgC_X11_93_0 _) (rC_0_11 _) ?_
        refine j_iload_n hc dX11_ask_22 rfl ?_
        refine j_callVI (t := 60) (As := [.int a1]) hc dX11_ask_23 kw_1349 mX4_tally (kC_60 _) clX4 rfl (by omega) (Nat.le_of_ble_eq_true rfl) (Nat.le_of_ble_eq_true rfl) ⟨Nat.le_refl _, Nat.le_refl _⟩ hf (fun v I' L' h => qX4_tally x.2.1 n d a1 I1 L1 v I' L' h) (fun v2 I2 L2 hf => ?_)
        refine j_if_ne (tgt := 31) hc dX11_ask_26 rfl hf (fun hf => ?_) (fun hf => ?_)
        · refine j_aload_n hc dX11_ask_31 rfl ?_
          refine j_getR (u := 60) hc dX11_ask_32 (fgC_X11_93_0 _) (rC_0_11 _) ?_
          refine j_callVI (t := 60) (As := []) hc dX11_ask_35 kw_1365 mX4_bestQuestion (kC_60 _) clX4 rfl (by omega) (Nat.le_of_ble_eq_true rfl) (Nat.le_of_ble_eq_true rfl) ⟨Nat.le_refl _, Nat.le_refl _⟩ hf (fun v I' L' h => qX4_bestQuestion x.2.1 n d I2 L2 v I' L' h) (fun v3 I3 L3 hf => ?_)
          refine j_istore_n hc dX11_ask_38 (Nat.le_of_ble_eq_true rfl) hf (fun v4 hf => ?_)
          refine j_iload_n hc dX11_ask_39 rfl ?_
          refine j_if_ne (tgt := 47) hc dX11_ask_40 rfl hf (fun hf => ?_) (fun hf => ?_)
          · refine j_aload_n hc dX11_ask_47 rfl ?_
            refine j_getR (u := 60) hc dX11_ask_48 (fgC_X11_93_0 _) (rC_0_11 _) ?_
            refine j_iload_n hc dX11_ask_51 rfl ?_
            refine j_callVI (t := 60) (As := [.int v4]) hc dX11_ask_52 kw_1374 mX4_mostFrequent (kC_60 _) clX4 rfl (by omega) (Nat.le_of_ble_eq_true rfl) (Nat.le_of_ble_eq_true rfl) ⟨Nat.le_refl _, Nat.le_refl _⟩ hf (fun v I' L' h => qX4_mostFrequent x.2.1 n d v4 I3 L3 v I' L' h) (fun v5 I5 L5 hf => ?_)
            exact j_ireturn hc dX11_ask_55 rfl rfl hf
          · refine j_iload_n hc dX11_ask_43 rfl ?_
            refine j_goto (tgt := 55) hc dX11_ask_44 rfl ?_
            exact j_ireturn hc dX11_ask_55 rfl rfl hf
        · refine j_iconst (v := (-1 : Int32)) hc dX11_ask_29 ci_m1 ?_
          exact j_ireturn hc dX11_ask_30 rfl rfl hf
      · refine j_iconst (v := (-1 : Int32)) hc dX11_ask_16 ci_m1 ?_
        exact j_ireturn hc dX11_ask_17 rfl rfl hf

set_option maxRecDepth 100000 in
theorem qX11_ask (l : Launch) {al : Bool} (n d : Nat) (a1 : Int32) (a2 : Int32) (I : am_I) (L : am_L) (r : Int32) (I' : am_I) (L' : am_L) (hf : fX11_ask n d a1 a2 I L = some (r, I', L')) : am_C l yX11_ask cX11_ask 4 (some .int) (d + 4) [.ref 0, .int a1, .int a2] (KC al) (RC al) I L (some (.int r)) I' L' := by
  exact am_intro (plainFor_of_name plX11) (fun _ _ => trivial) (Nat.le_of_ble_eq_true rfl) (fun x hl hc => by subst hl; exact j_sub (tX11_ask n d hc _ _ _ _ hf) (And.intro rfl (And.intro rfl (And.intro rfl (trivial)))))
set_option maxRecDepth 100000 in
def fX11_isOddsSpan (n d : Nat) (a0 : Int32) (I : am_I) (L : am_L) : Option (Int32 × am_I × am_L) :=
  if a0 < 0 then
    (some ((0 : Int32), I, L))
    else
    (if (40 : Int32) < a0 then
      (some ((0 : Int32), I, L))
      else
      (some ((1 : Int32), I, L)))

set_option maxRecDepth 100000 in
set_option maxHeartbeats 4000000 in
theorem tX11_isOddsSpan {x : am_X} {al : Bool} (n d : Nat) (hc : am_ok x cX11_isOddsSpan yX11_isOddsSpan 1 (some .boolean) (d + 1) 0 0) {r : Int32} {I' : am_I} {L' : am_L} (a0 : Int32) (I : am_I) (L : am_L) (hf : fX11_isOddsSpan n d a0 I L = some (r, I', L')) : am_J x (fun S => S = (some (.int r), (KC al), (RC al), I', L')) 0 [some (.int a0)] [] (KC al) (RC al) I L 0 0 := by
  unfold fX11_isOddsSpan at hf
  refine j_iload_n hc dX11_isOddsSpan_0 rfl ?_
  refine j_if_lt (tgt := 14) hc dX11_isOddsSpan_1 rfl hf (fun hf => ?_) (fun hf => ?_)
  · refine j_iconst (v := (0 : Int32)) hc dX11_isOddsSpan_14 ci_0 ?_
    exact j_zret hc dX11_isOddsSpan_15 rfl rfl (Or.inl rfl) hf
  · refine j_iload_n hc dX11_isOddsSpan_4 rfl ?_
    refine j_bipush (v := (40 : Int32)) hc dX11_isOddsSpan_5 cb_40 ?_
    refine j_icmp_gt (tgt := 14) hc dX11_isOddsSpan_7 rfl hf (fun hf => ?_) (fun hf => ?_)
    · refine j_iconst (v := (0 : Int32)) hc dX11_isOddsSpan_14 ci_0 ?_
      exact j_zret hc dX11_isOddsSpan_15 rfl rfl (Or.inl rfl) hf
    · refine j_iconst (v := (1 : Int32)) hc dX11_isOddsSpan_10 ci_1 ?_
      refine j_goto (tgt := 15) hc dX11_isOddsSpan_11 rfl ?_
      exact j_zret hc dX11_isOddsSpan_15 rfl rfl (Or.inr rfl) hf

set_option maxRecDepth 100000 in
theorem qX11_isOddsSpan (l : Launch) {al : Bool} (n d : Nat) (a0 : Int32) (I : am_I) (L : am_L) (r : Int32) (I' : am_I) (L' : am_L) (hf : fX11_isOddsSpan n d a0 I L = some (r, I', L')) : am_C l yX11_isOddsSpan cX11_isOddsSpan 1 (some .boolean) (d + 1) [.int a0] (KC al) (RC al) I L (some (.int r)) I' L' := by
  exact am_intro (plainFor_of_name plX11) (fun _ _ => trivial) (Nat.le_of_ble_eq_true rfl) (fun x hl hc => by subst hl; exact j_sub (tX11_isOddsSpan n d hc _ _ _ hf) (And.intro rfl (trivial)))
set_option maxRecDepth 100000 in
def fX11_partsAtHome_b53w (n d : Nat) (k45 : Int32 → Int32 → Int32 → am_I → am_L → Option (Int32 × am_I × am_L)) (k53 : Int32 → Int32 → Int32 → Int32 → am_I → am_L → Option (Int32 × am_I × am_L)) (a1 : Int32) (a2 : Int32) (a3 : Int32) (a4 : Int32) (I : am_I) (L : am_L) : Option (Int32 × am_I × am_L) :=
  if (21 : Int32) ≤ a4 then
    (am_lt (a3 + (1 : Int32)) (fun v1 => k45 a1 a2 v1 I L))
    else
    (am_ck a4 21 (am_lt (L 65 (a4).toNatClampNeg) (fun v2 => am_ck a1 8 (am_lt (I 9 (a1).toNatClampNeg) (fun v3 => (if (10 : Int64) = 0 then none else am_lt ((v2 * v3.toInt64) / (10 : Int64)) (fun v4 => am_ck (a4 - (1 : Int32)) 21 (am_lt (L 65 ((a4 - (1 : Int32))).toNatClampNeg) (fun v5 => am_ck a4 21 (am_lt (L 65 (a4).toNatClampNeg) (fun v6 => am_ck (a4 - (1 : Int32)) 21 (am_lt (am_uL L 65 ((a4 - (1 : Int32))).toNatClampNeg (v5 + (v6 - v4))) (fun L7 => am_ck a4 21 (am_lt (am_uL L7 65 (a4).toNatClampNeg v4) (fun L8 => am_lt (a4 + (1 : Int32)) (fun v9 => k53 a1 a2 a3 v9 I L8))))))))))))))))

set_option maxRecDepth 100000 in
set_option maxHeartbeats 4000000 in
theorem tX11_partsAtHome_b53w {x : am_X} {al : Bool} (n d : Nat) (hc : am_ok x cX11_partsAtHome yX11_partsAtHome 7 (some .int) (d + 1) 0 0) {r : Int32} {I' : am_I} {L' : am_L} (k45 : Int32 → Int32 → Int32 → am_I → am_L → Option (Int32 × am_I × am_L)) (k53 : Int32 → Int32 → Int32 → Int32 → am_I → am_L → Option (Int32 × am_I × am_L)) (hk45 : ∀ (a1 : Int32) (a2 : Int32) (a3 : Int32) (I : am_I) (L : am_L), k45 a1 a2 a3 I L = some (r, I', L') → am_J x (fun S => S = (some (.int r), (KC al), (RC al), I', L')) 45 [some (.ref 0), some (.int a1), some (.int a2), some (.int a3), none, none, none] [] (KC al) (RC al) I L 0 0) (hk53 : ∀ (a1 : Int32) (a2 : Int32) (a3 : Int32) (a4 : Int32) (I : am_I) (L : am_L), k53 a1 a2 a3 a4 I L = some (r, I', L') → am_J x (fun S => S = (some (.int r), (KC al), (RC al), I', L')) 53 [some (.ref 0), some (.int a1), some (.int a2), some (.int a3), some (.int a4), none, none] [] (KC al) (RC al) I L 0 0) (a1 : Int32) (a2 : Int32) (a3 : Int32) (a4 : Int32) (I : am_I) (L : am_L) (hf : fX11_partsAtHome_b53w n d k45 k53 a1 a2 a3 a4 I L = some (r, I', L')) : am_J x (fun S => S = (some (.int r), (KC al), (RC al), I', L')) 53 [some (.ref 0), some (.int a1), some (.int a2), some (.int a3), some (.int a4), none, none] [] (KC al) (RC al) I L 0 0 := by
  unfold fX11_partsAtHome_b53w at hf
  refine j_iload hc dX11_partsAtHome_53 rfl ?_
  refine j_aload_n hc dX11_partsAtHome_55 rfl ?_
  refine j_getR (u := 65) hc dX11_partsAtHome_56 (fgC_X11_97_0 _) (rC_0_12 _) ?_
  refine j_alen1 (v := (21 : Int32)) hc dX11_partsAtHome_59 (kC_65 _) cn_21 ?_
  refine j_icmp_ge (tgt := 124) hc dX11_partsAtHome_60 rfl hf (fun hf => ?_) (fun hf => ?_)
  · refine j_iinc (w := (1 : Int32)) hc dX11_partsAtHome_124 rfl ci_1 (Nat.le_of_ble_eq_true rfl) hf (fun v1 hf => ?_)
    refine j_goto (tgt := 45) hc dX11_partsAtHome_127 rfl ?_
    exact j_sub (hk45 _ _ _ _ _ hf) (And.intro rfl (And.intro rfl (And.intro rfl (And.intro rfl (trivial)))))
  · refine j_aload_n hc dX11_partsAtHome_63 rfl ?_
    refine j_getR (u := 65) hc dX11_partsAtHome_64 (fgC_X11_97_0 _) (rC_0_12 _) ?_
    refine j_iload hc dX11_partsAtHome_67 rfl ?_
    refine j_laload (n := 21) hc dX11_partsAtHome_69 (kC_65 _) hf (fun v2 hf => ?_)
    refine j_aload_n hc dX11_partsAtHome_70 rfl ?_
    refine j_getR (u := 3) hc dX11_partsAtHome_71 (fgC_X11_19_0 _) (rC_0_1 _) ?_
    refine j_getR (u := 9) hc dX11_partsAtHome_74 (fgC_X11_180_3 _) (rC_3_10 _) ?_
    refine j_iload_n hc dX11_partsAtHome_77 rfl ?_
    refine j_iaload (n := 8) hc dX11_partsAtHome_78 (kC_9 _) hf (fun v3 hf => ?_)
    refine j_i2l hc dX11_partsAtHome_79 ?_
    refine j_lmul hc dX11_partsAtHome_80 ?_
    refine j_ldc2 (v := (10 : Int64)) hc dX11_partsAtHome_81 kw_1391 ?_
    refine j_ldiv hc dX11_partsAtHome_84 hf (fun hf => ?_)
    refine j_lstore hc dX11_partsAtHome_85 (Nat.le_of_ble_eq_true rfl) hf (fun v4 hf => ?_)
    refine j_aload_n hc dX11_partsAtHome_87 rfl ?_
    refine j_getR (u := 65) hc dX11_partsAtHome_88 (fgC_X11_97_0 _) (rC_0_12 _) ?_
    refine j_iload hc dX11_partsAtHome_91 rfl ?_
    refine j_iconst (v := (1 : Int32)) hc dX11_partsAtHome_93 ci_1 ?_
    refine j_isub hc dX11_partsAtHome_94 ?_
    refine j_dup2 hc dX11_partsAtHome_95 rfl rfl ?_
    refine j_laload (n := 21) hc dX11_partsAtHome_96 (kC_65 _) hf (fun v5 hf => ?_)
    refine j_aload_n hc dX11_partsAtHome_97 rfl ?_
    refine j_getR (u := 65) hc dX11_partsAtHome_98 (fgC_X11_97_0 _) (rC_0_12 _) ?_
    refine j_iload hc dX11_partsAtHome_101 rfl ?_
    refine j_laload (n := 21) hc dX11_partsAtHome_103 (kC_65 _) hf (fun v6 hf => ?_)
    refine j_lload hc dX11_partsAtHome_104 rfl ?_
    refine j_lsub hc dX11_partsAtHome_106 ?_
    refine j_ladd hc dX11_partsAtHome_107 ?_
    refine j_lastore (n := 21) hc dX11_partsAtHome_108 (kC_65 _) hf (fun L7 hf => ?_)
    refine j_aload_n hc dX11_partsAtHome_109 rfl ?_
    refine j_getR (u := 65) hc dX11_partsAtHome_110 (fgC_X11_97_0 _) (rC_0_12 _) ?_
    refine j_iload hc dX11_partsAtHome_113 rfl ?_
    refine j_lload hc dX11_partsAtHome_115 rfl ?_
    refine j_lastore (n := 21) hc dX11_partsAtHome_117 (kC_65 _) hf (fun L8 hf => ?_)
    refine j_iinc (w := (1 : Int32)) hc dX11_partsAtHome_118 rfl ci_1 (Nat.le_of_ble_eq_true rfl) hf (fun v9 hf => ?_)
    refine j_goto (tgt := 53) hc dX11_partsAtHome_121 rfl ?_
    exact j_sub (hk53 _ _ _ _ _ _ hf) (And.intro rfl (And.intro rfl (And.intro rfl (And.intro rfl (And.intro rfl (trivial))))))

def fX11_partsAtHome_b53 (n d : Nat) (k45 : Int32 → Int32 → Int32 → am_I → am_L → Option (Int32 × am_I × am_L)) : Nat → Int32 → Int32 → Int32 → Int32 → am_I → am_L → Option (Int32 × am_I × am_L)
  | 0 => fun _ _ _ _ _ _ => none
  | m + 1 => fX11_partsAtHome_b53w n d  k45 (fX11_partsAtHome_b53 n d k45 m)

set_option maxRecDepth 100000 in
theorem tX11_partsAtHome_b53 {x : am_X} {al : Bool} (n d : Nat) (hc : am_ok x cX11_partsAtHome yX11_partsAtHome 7 (some .int) (d + 1) 0 0) {r : Int32} {I' : am_I} {L' : am_L} (k45 : Int32 → Int32 → Int32 → am_I → am_L → Option (Int32 × am_I × am_L)) (hk45 : ∀ (a1 : Int32) (a2 : Int32) (a3 : Int32) (I : am_I) (L : am_L), k45 a1 a2 a3 I L = some (r, I', L') → am_J x (fun S => S = (some (.int r), (KC al), (RC al), I', L')) 45 [some (.ref 0), some (.int a1), some (.int a2), some (.int a3), none, none, none] [] (KC al) (RC al) I L 0 0) (m : Nat) : ∀ (a1 : Int32) (a2 : Int32) (a3 : Int32) (a4 : Int32) (I : am_I) (L : am_L) (hf : fX11_partsAtHome_b53 n d k45 m a1 a2 a3 a4 I L = some (r, I', L')), am_J x (fun S => S = (some (.int r), (KC al), (RC al), I', L')) 53 [some (.ref 0), some (.int a1), some (.int a2), some (.int a3), some (.int a4), none, none] [] (KC al) (RC al) I L 0 0 := by
  induction m with
  | zero => intro a1 a2 a3 a4 I L hf; exact (Option.some_ne_none _ hf.symm).elim
  | succ m ih => intro a1 a2 a3 a4 I L hf; exact tX11_partsAtHome_b53w n d hc k45 (fX11_partsAtHome_b53 n d k45 m) hk45 ih a1 a2 a3 a4 I L hf

set_option maxRecDepth 100000 in
def fX11_partsAtHome_b45w (n d : Nat) (k45 : Int32 → Int32 → Int32 → am_I → am_L → Option (Int32 × am_I × am_L)) (a1 : Int32) (a2 : Int32) (a3 : Int32) (I : am_I) (L : am_L) : Option (Int32 × am_I × am_L) :=
  if a2 ≤ a3 then
    (am_ck (0 : Int32) 21 (am_lt (L 65 ((0 : Int32)).toNatClampNeg) (fun v1 => some (v1.toInt32, I, L))))
    else
    (am_lt (1 : Int32) (fun v2 => fX11_partsAtHome_b53 n d k45 n a1 a2 a3 v2 I L))

set_option maxRecDepth 100000 in
set_option maxHeartbeats 4000000 in
theorem tX11_partsAtHome_b45w {x : am_X} {al : Bool} (n d : Nat) (hc : am_ok x cX11_partsAtHome yX11_partsAtHome 7 (some .int) (d + 1) 0 0) {r : Int32} {I' : am_I} {L' : am_L} (k45 : Int32 → Int32 → Int32 → am_I → am_L → Option (Int32 × am_I × am_L)) (hk45 : ∀ (a1 : Int32) (a2 : Int32) (a3 : Int32) (I : am_I) (L : am_L), k45 a1 a2 a3 I L = some (r, I', L') → am_J x (fun S => S = (some (.int r), (KC al), (RC al), I', L')) 45 [some (.ref 0), some (.int a1), some (.int a2), some (.int a3), none, none, none] [] (KC al) (RC al) I L 0 0) (a1 : Int32) (a2 : Int32) (a3 : Int32) (I : am_I) (L : am_L) (hf : fX11_partsAtHome_b45w n d k45 a1 a2 a3 I L = some (r, I', L')) : am_J x (fun S => S = (some (.int r), (KC al), (RC al), I', L')) 45 [some (.ref 0), some (.int a1), some (.int a2), some (.int a3), none, none, none] [] (KC al) (RC al) I L 0 0 := by
  unfold fX11_partsAtHome_b45w at hf
  refine j_iload_n hc dX11_partsAtHome_45 rfl ?_
  refine j_iload_n hc dX11_partsAtHome_46 rfl ?_
  refine j_icmp_ge (tgt := 130) hc dX11_partsAtHome_47 rfl hf (fun hf => ?_) (fun hf => ?_)
  · refine j_aload_n hc dX11_partsAtHome_130 rfl ?_
    refine j_getR (u := 65) hc dX11_partsAtHome_131 (fgC_X11_97_0 _) (rC_0_12 _) ?_
    refine j_iconst (v := (0 : Int32)) hc dX11_partsAtHome_134 ci_0 ?_
    refine j_laload (n := 21) hc dX11_partsAtHome_135 (kC_65 _) hf (fun v1 hf => ?_)
    refine j_l2i hc dX11_partsAtHome_136 ?_
    exact j_ireturn hc dX11_partsAtHome_137 rfl rfl hf
  · refine j_iconst (v := (1 : Int32)) hc dX11_partsAtHome_50 ci_1 ?_
    refine j_istore hc dX11_partsAtHome_51 (Nat.le_of_ble_eq_true rfl) hf (fun v2 hf => ?_)
    exact j_sub (tX11_partsAtHome_b53 n d hc k45 hk45 n _ _ _ _ _ _ hf) (And.intro rfl (And.intro rfl (And.intro rfl (And.intro rfl (And.intro rfl (trivial))))))

def fX11_partsAtHome_b45 (n d : Nat) : Nat → Int32 → Int32 → Int32 → am_I → am_L → Option (Int32 × am_I × am_L)
  | 0 => fun _ _ _ _ _ => none
  | m + 1 => fX11_partsAtHome_b45w n d  (fX11_partsAtHome_b45 n d m)

set_option maxRecDepth 100000 in
theorem tX11_partsAtHome_b45 {x : am_X} {al : Bool} (n d : Nat) (hc : am_ok x cX11_partsAtHome yX11_partsAtHome 7 (some .int) (d + 1) 0 0) {r : Int32} {I' : am_I} {L' : am_L} (m : Nat) : ∀ (a1 : Int32) (a2 : Int32) (a3 : Int32) (I : am_I) (L : am_L) (hf : fX11_partsAtHome_b45 n d m a1 a2 a3 I L = some (r, I', L')), am_J x (fun S => S = (some (.int r), (KC al), (RC al), I', L')) 45 [some (.ref 0), some (.int a1), some (.int a2), some (.int a3), none, none, none] [] (KC al) (RC al) I L 0 0 := by
  induction m with
  | zero => intro a1 a2 a3 I L hf; exact (Option.some_ne_none _ hf.symm).elim
  | succ m ih => intro a1 a2 a3 I L hf; exact tX11_partsAtHome_b45w n d hc (fX11_partsAtHome_b45 n d m) ih a1 a2 a3 I L hf

set_option maxRecDepth 100000 in
def fX11_partsAtHome_b36 (n d : Nat) (k2 : Int32 → Int32 → Int32 → am_I → am_L → Option (Int32 × am_I × am_L)) (s1 : Int32) (s2 : Int64) (a1 : Int32) (a2 : Int32) (a3 : Int32) (I : am_I) (L : am_L) : Option (Int32 × am_I × am_L) :=
  am_ck s1 21 (am_lt (am_uL L 65 (s1).toNatClampNeg s2) (fun L1 => am_lt (a3 + (1 : Int32)) (fun v2 => k2 a1 a2 v2 I L1)))

set_option maxRecDepth 100000 in
set_option maxHeartbeats 4000000 in
theorem tX11_partsAtHome_b36 {x : am_X} {al : Bool} (n d : Nat) (hc : am_ok x cX11_partsAtHome yX11_partsAtHome 7 (some .int) (d + 1) 0 0) {r : Int32} {I' : am_I} {L' : am_L} (k2 : Int32 → Int32 → Int32 → am_I → am_L → Option (Int32 × am_I × am_L)) (hk2 : ∀ (a1 : Int32) (a2 : Int32) (a3 : Int32) (I : am_I) (L : am_L), k2 a1 a2 a3 I L = some (r, I', L') → am_J x (fun S => S = (some (.int r), (KC al), (RC al), I', L')) 2 [some (.ref 0), some (.int a1), some (.int a2), some (.int a3), none, none, none] [] (KC al) (RC al) I L 0 0) (s1 : Int32) (s2 : Int64) (a1 : Int32) (a2 : Int32) (a3 : Int32) (I : am_I) (L : am_L) (hf : fX11_partsAtHome_b36 n d k2 s1 s2 a1 a2 a3 I L = some (r, I', L')) : am_J x (fun S => S = (some (.int r), (KC al), (RC al), I', L')) 36 [some (.ref 0), some (.int a1), some (.int a2), some (.int a3), none, none, none] [.long s2, .int s1, .ref 65] (KC al) (RC al) I L 0 0 := by
  unfold fX11_partsAtHome_b36 at hf
  refine j_lastore (n := 21) hc dX11_partsAtHome_36 (kC_65 _) hf (fun L1 hf => ?_)
  refine j_iinc (w := (1 : Int32)) hc dX11_partsAtHome_37 rfl ci_1 (Nat.le_of_ble_eq_true rfl) hf (fun v2 hf => ?_)
  refine j_goto (tgt := 2) hc dX11_partsAtHome_40 rfl ?_
  exact j_sub (hk2 _ _ _ _ _ hf) (And.intro rfl (And.intro rfl (And.intro rfl (And.intro rfl (trivial)))))

set_option maxRecDepth 100000 in
def fX11_partsAtHome_b2w (n d : Nat) (k2 : Int32 → Int32 → Int32 → am_I → am_L → Option (Int32 × am_I × am_L)) (a1 : Int32) (a2 : Int32) (a3 : Int32) (I : am_I) (L : am_L) : Option (Int32 × am_I × am_L) :=
  if (21 : Int32) ≤ a3 then
    (am_lt (0 : Int32) (fun v1 => fX11_partsAtHome_b45 n d n a1 a2 v1 I L))
    else
    (am_ck a1 8 (am_lt (I 40 (a1).toNatClampNeg) (fun v2 => if a3 = v2 then
      (fX11_partsAtHome_b36 n d k2 a3 (1000000000 : Int64) a1 a2 a3 I L)
      else
      (fX11_partsAtHome_b36 n d k2 a3 (0 : Int64) a1 a2 a3 I L))))

set_option maxRecDepth 100000 in
set_option maxHeartbeats 4000000 in
theorem tX11_partsAtHome_b2w {x : am_X} {al : Bool} (n d : Nat) (hc : am_ok x cX11_partsAtHome yX11_partsAtHome 7 (some .int) (d + 1) 0 0) {r : Int32} {I' : am_I} {L' : am_L} (k2 : Int32 → Int32 → Int32 → am_I → am_L → Option (Int32 × am_I × am_L)) (hk2 : ∀ (a1 : Int32) (a2 : Int32) (a3 : Int32) (I : am_I) (L : am_L), k2 a1 a2 a3 I L = some (r, I', L') → am_J x (fun S => S = (some (.int r), (KC al), (RC al), I', L')) 2 [some (.ref 0), some (.int a1), some (.int a2), some (.int a3), none, none, none] [] (KC al) (RC al) I L 0 0) (a1 : Int32) (a2 : Int32) (a3 : Int32) (I : am_I) (L : am_L) (hf : fX11_partsAtHome_b2w n d k2 a1 a2 a3 I L = some (r, I', L')) : am_J x (fun S => S = (some (.int r), (KC al), (RC al), I', L')) 2 [some (.ref 0), some (.int a1), some (.int a2), some (.int a3), none, none, none] [] (KC al) (RC al) I L 0 0 := by
  unfold fX11_partsAtHome_b2w at hf
  refine j_iload_n hc dX11_partsAtHome_2 rfl ?_
  refine j_aload_n hc dX11_partsAtHome_3 rfl ?_
  refine j_getR (u := 65) hc dX11_partsAtHome_4 (fgC_X11_97_0 _) (rC_0_12 _) ?_
  refine j_alen1 (v := (21 : Int32)) hc dX11_partsAtHome_7 (kC_65 _) cn_21 ?_
  refine j_icmp_ge (tgt := 43) hc dX11_partsAtHome_8 rfl hf (fun hf => ?_) (fun hf => ?_)
  · refine j_iconst (v := (0 : Int32)) hc dX11_partsAtHome_43 ci_0 ?_
    refine j_istore_n hc dX11_partsAtHome_44 (Nat.le_of_ble_eq_true rfl) hf (fun v1 hf => ?_)
    exact j_sub (tX11_partsAtHome_b45 n d hc n _ _ _ _ _ hf) (And.intro rfl (And.intro rfl (And.intro rfl (And.intro rfl (trivial)))))
  · refine j_aload_n hc dX11_partsAtHome_11 rfl ?_
    refine j_getR (u := 65) hc dX11_partsAtHome_12 (fgC_X11_97_0 _) (rC_0_12 _) ?_
    refine j_iload_n hc dX11_partsAtHome_15 rfl ?_
    refine j_iload_n hc dX11_partsAtHome_16 rfl ?_
    refine j_aload_n hc dX11_partsAtHome_17 rfl ?_
    refine j_getR (u := 39) hc dX11_partsAtHome_18 (fgC_X11_56_0 _) (rC_0_6 _) ?_
    refine j_getR (u := 40) hc dX11_partsAtHome_21 (fgC_X11_168_39 _) (rC_39_2 _) ?_
    refine j_iload_n hc dX11_partsAtHome_24 rfl ?_
    refine j_iaload (n := 8) hc dX11_partsAtHome_25 (kC_40 _) hf (fun v2 hf => ?_)
    refine j_icmp_ne (tgt := 35) hc dX11_partsAtHome_26 rfl hf (fun hf => ?_) (fun hf => ?_)
    · refine j_lconst (v := (0 : Int64)) hc dX11_partsAtHome_35 cl__0 ?_
      exact j_sub (tX11_partsAtHome_b36 n d hc k2 hk2 _ _ _ _ _ _ _ hf) (And.intro rfl (And.intro rfl (And.intro rfl (And.intro rfl (trivial)))))
    · refine j_ldc2 (v := (1000000000 : Int64)) hc dX11_partsAtHome_29 kw_1390 ?_
      refine j_goto (tgt := 36) hc dX11_partsAtHome_32 rfl ?_
      exact j_sub (tX11_partsAtHome_b36 n d hc k2 hk2 _ _ _ _ _ _ _ hf) (And.intro rfl (And.intro rfl (And.intro rfl (And.intro rfl (trivial)))))

def fX11_partsAtHome_b2 (n d : Nat) : Nat → Int32 → Int32 → Int32 → am_I → am_L → Option (Int32 × am_I × am_L)
  | 0 => fun _ _ _ _ _ => none
  | m + 1 => fX11_partsAtHome_b2w n d  (fX11_partsAtHome_b2 n d m)

set_option maxRecDepth 100000 in
theorem tX11_partsAtHome_b2 {x : am_X} {al : Bool} (n d : Nat) (hc : am_ok x cX11_partsAtHome yX11_partsAtHome 7 (some .int) (d + 1) 0 0) {r : Int32} {I' : am_I} {L' : am_L} (m : Nat) : ∀ (a1 : Int32) (a2 : Int32) (a3 : Int32) (I : am_I) (L : am_L) (hf : fX11_partsAtHome_b2 n d m a1 a2 a3 I L = some (r, I', L')), am_J x (fun S => S = (some (.int r), (KC al), (RC al), I', L')) 2 [some (.ref 0), some (.int a1), some (.int a2), some (.int a3), none, none, none] [] (KC al) (RC al) I L 0 0 := by
  induction m with
  | zero => intro a1 a2 a3 I L hf; exact (Option.some_ne_none _ hf.symm).elim
  | succ m ih => intro a1 a2 a3 I L hf; exact tX11_partsAtHome_b2w n d hc (fX11_partsAtHome_b2 n d m) ih a1 a2 a3 I L hf

set_option maxRecDepth 100000 in
def fX11_partsAtHome (n d : Nat) (a1 : Int32) (a2 : Int32) (I : am_I) (L : am_L) : Option (Int32 × am_I × am_L) :=
  am_lt (0 : Int32) (fun v1 => fX11_partsAtHome_b2 n d n a1 a2 v1 I L)

set_option maxRecDepth 100000 in
set_option maxHeartbeats 4000000 in
theorem tX11_partsAtHome {x : am_X} {al : Bool} (n d : Nat) (hc : am_ok x cX11_partsAtHome yX11_partsAtHome 7 (some .int) (d + 1) 0 0) {r : Int32} {I' : am_I} {L' : am_L} (a1 : Int32) (a2 : Int32) (I : am_I) (L : am_L) (hf : fX11_partsAtHome n d a1 a2 I L = some (r, I', L')) : am_J x (fun S => S = (some (.int r), (KC al), (RC al), I', L')) 0 [some (.ref 0), some (.int a1), some (.int a2), none, none, none, none] [] (KC al) (RC al) I L 0 0 := by
  unfold fX11_partsAtHome at hf
  refine j_iconst (v := (0 : Int32)) hc dX11_partsAtHome_0 ci_0 ?_
  refine j_istore_n hc dX11_partsAtHome_1 (Nat.le_of_ble_eq_true rfl) hf (fun v1 hf => ?_)
  exact j_sub (tX11_partsAtHome_b2 n d hc n _ _ _ _ _ hf) (And.intro rfl (And.intro rfl (And.intro rfl (And.intro rfl (trivial)))))

set_option maxRecDepth 100000 in
theorem qX11_partsAtHome (l : Launch) {al : Bool} (n d : Nat) (a1 : Int32) (a2 : Int32) (I : am_I) (L : am_L) (r : Int32) (I' : am_I) (L' : am_L) (hf : fX11_partsAtHome n d a1 a2 I L = some (r, I', L')) : am_C l yX11_partsAtHome cX11_partsAtHome 7 (some .int) (d + 1) [.ref 0, .int a1, .int a2] (KC al) (RC al) I L (some (.int r)) I' L' := by
  exact am_intro (plainFor_of_name plX11) (fun _ _ => trivial) (Nat.le_of_ble_eq_true rfl) (fun x hl hc => by subst hl; exact j_sub (tX11_partsAtHome n d hc _ _ _ _ hf) (And.intro rfl (And.intro rfl (And.intro rfl (trivial)))))
set_option maxRecDepth 100000 in
def fX11_odds (n d : Nat) (a1 : Int32) (a2 : Int32) (I : am_I) (L : am_L) : Option (Int32 × am_I × am_L) :=
  am_b3 (fX9_hasMan_war n d a1 I L) (fun v1 I1 L1 => if v1 = 0 then
    (some ((-1 : Int32), I1, L1))
    else
    (am_b3 (fX11_isOddsSpan n d a2 I1 L1) (fun v2 I2 L2 => if v2 = 0 then
      (some ((-1 : Int32), I2, L2))
      else
      (am_b3 (fX11_partsAtHome n d a1 a2 I2 L2) (fun v3 I3 L3 => some (v3, I3, L3))))))

set_option maxRecDepth 100000 in
set_option maxHeartbeats 4000000 in
theorem tX11_odds {x : am_X} {al : Bool} (n d : Nat) (hc : am_ok x cX11_odds yX11_odds 3 (some .int) (d + 2) 0 0) {r : Int32} {I' : am_I} {L' : am_L} (a1 : Int32) (a2 : Int32) (I : am_I) (L : am_L) (hf : fX11_odds n d a1 a2 I L = some (r, I', L')) : am_J x (fun S => S = (some (.int r), (KC al), (RC al), I', L')) 0 [some (.ref 0), some (.int a1), some (.int a2)] [] (KC al) (RC al) I L 0 0 := by
  unfold fX11_odds at hf
  refine j_aload_n hc dX11_odds_0 rfl ?_
  refine j_getR (u := 3) hc dX11_odds_1 (fgC_X11_19_0 _) (rC_0_1 _) ?_
  refine j_iload_n hc dX11_odds_4 rfl ?_
  refine j_callVI (t := 3) (As := [.int a1]) hc dX11_odds_5 kw_978 mX9_hasMan (kC_3 _) clX9 rfl (by omega) (Nat.le_of_ble_eq_true rfl) (Nat.le_of_ble_eq_true rfl) ⟨Nat.le_refl _, Nat.le_refl _⟩ hf (fun v I' L' h => qX9_hasMan_war x.2.1 n d a1 I L v I' L' h) (fun v1 I1 L1 hf => ?_)
  refine j_if_eq (tgt := 18) hc dX11_odds_8 rfl hf (fun hf => ?_) (fun hf => ?_)
  · refine j_iconst (v := (-1 : Int32)) hc dX11_odds_18 ci_m1 ?_
    exact j_ireturn hc dX11_odds_19 rfl rfl hf
  · refine j_iload_n hc dX11_odds_11 rfl ?_
    refine j_callSI (As := [.int a2]) hc dX11_odds_12 kw_1383 mX11_isOddsSpan  rfl (by omega) (Nat.le_of_ble_eq_true rfl) (Nat.le_of_ble_eq_true rfl) ⟨Nat.le_refl _, Nat.le_refl _⟩ hf (fun v I' L' h => qX11_isOddsSpan x.2.1 n d a2 I1 L1 v I' L' h) (fun v2 I2 L2 hf => ?_)
    refine j_if_ne (tgt := 20) hc dX11_odds_15 rfl hf (fun hf => ?_) (fun hf => ?_)
    · refine j_aload_n hc dX11_odds_20 rfl ?_
      refine j_iload_n hc dX11_odds_21 rfl ?_
      refine j_iload_n hc dX11_odds_22 rfl ?_
      refine j_callVI (t := 0) (As := [.int a1, .int a2]) hc dX11_odds_23 kw_1386 mX11_partsAtHome (kC_0 _) clX11 rfl (by omega) (Nat.le_of_ble_eq_true rfl) (Nat.le_of_ble_eq_true rfl) ⟨Nat.le_refl _, Nat.le_refl _⟩ hf (fun v I' L' h => qX11_partsAtHome x.2.1 n d a1 a2 I2 L2 v I' L' h) (fun v3 I3 L3 hf => ?_)
      exact j_ireturn hc dX11_odds_26 rfl rfl hf
    · refine j_iconst (v := (-1 : Int32)) hc dX11_odds_18 ci_m1 ?_
      exact j_ireturn hc dX11_odds_19 rfl rfl hf

set_option maxRecDepth 100000 in
theorem qX11_odds (l : Launch) {al : Bool} (n d : Nat) (a1 : Int32) (a2 : Int32) (I : am_I) (L : am_L) (r : Int32) (I' : am_I) (L' : am_L) (hf : fX11_odds n d a1 a2 I L = some (r, I', L')) : am_C l yX11_odds cX11_odds 3 (some .int) (d + 2) [.ref 0, .int a1, .int a2] (KC al) (RC al) I L (some (.int r)) I' L' := by
  exact am_intro (plainFor_of_name plX11) (fun _ _ => trivial) (Nat.le_of_ble_eq_true rfl) (fun x hl hc => by subst hl; exact j_sub (tX11_odds n d hc _ _ _ _ hf) (And.intro rfl (And.intro rfl (And.intro rfl (trivial)))))
set_option maxRecDepth 100000 in
def fX11_hurry_b91 (n d : Nat) (k25 : Int32 → Int32 → Int32 → Int32 → Int32 → am_I → am_L → Option (Int32 × am_I × am_L)) (a1 : Int32) (a2 : Int32) (a3 : Int32) (a4 : Int32) (a5 : Int32) (I : am_I) (L : am_L) : Option (Int32 × am_I × am_L) :=
  am_lt (a5 + (1 : Int32)) (fun v1 => k25 a1 a2 a3 a4 v1 I L)

set_option maxRecDepth 100000 in
set_option maxHeartbeats 4000000 in
theorem tX11_hurry_b91 {x : am_X} {al : Bool} (n d : Nat) (hc : am_ok x cX11_hurry yX11_hurry 7 (some .int) (d + 2) 0 0) {r : Int32} {I' : am_I} {L' : am_L} (k25 : Int32 → Int32 → Int32 → Int32 → Int32 → am_I → am_L → Option (Int32 × am_I × am_L)) (hk25 : ∀ (a1 : Int32) (a2 : Int32) (a3 : Int32) (a4 : Int32) (a5 : Int32) (I : am_I) (L : am_L), k25 a1 a2 a3 a4 a5 I L = some (r, I', L') → am_J x (fun S => S = (some (.int r), (KC al), (RC al), I', L')) 25 [some (.ref 0), some (.int a1), some (.int a2), some (.int a3), some (.int a4), some (.int a5), none] [] (KC al) (RC al) I L 0 0) (a1 : Int32) (a2 : Int32) (a3 : Int32) (a4 : Int32) (a5 : Int32) (I : am_I) (L : am_L) (hf : fX11_hurry_b91 n d k25 a1 a2 a3 a4 a5 I L = some (r, I', L')) : am_J x (fun S => S = (some (.int r), (KC al), (RC al), I', L')) 91 [some (.ref 0), some (.int a1), some (.int a2), some (.int a3), some (.int a4), some (.int a5), none] [] (KC al) (RC al) I L 0 0 := by
  unfold fX11_hurry_b91 at hf
  refine j_iinc (w := (1 : Int32)) hc dX11_hurry_91 rfl ci_1 (Nat.le_of_ble_eq_true rfl) hf (fun v1 hf => ?_)
  refine j_goto (tgt := 25) hc dX11_hurry_94 rfl ?_
  exact j_sub (hk25 _ _ _ _ _ _ _ hf) (And.intro rfl (And.intro rfl (And.intro rfl (And.intro rfl (And.intro rfl (And.intro rfl (trivial)))))))

set_option maxRecDepth 100000 in
def fX11_hurry_b84 (n d : Nat) (k25 : Int32 → Int32 → Int32 → Int32 → Int32 → am_I → am_L → Option (Int32 × am_I × am_L)) (a1 : Int32) (a2 : Int32) (a5 : Int32) (a6 : Int32) (I : am_I) (L : am_L) : Option (Int32 × am_I × am_L) :=
  am_lt a5 (fun v1 => am_lt a6 (fun v2 => fX11_hurry_b91 n d k25 a1 a2 v1 v2 a5 I L))

set_option maxRecDepth 100000 in
set_option maxHeartbeats 4000000 in
theorem tX11_hurry_b84 {x : am_X} {al : Bool} (n d : Nat) (hc : am_ok x cX11_hurry yX11_hurry 7 (some .int) (d + 2) 0 0) {r : Int32} {I' : am_I} {L' : am_L} (k25 : Int32 → Int32 → Int32 → Int32 → Int32 → am_I → am_L → Option (Int32 × am_I × am_L)) (hk25 : ∀ (a1 : Int32) (a2 : Int32) (a3 : Int32) (a4 : Int32) (a5 : Int32) (I : am_I) (L : am_L), k25 a1 a2 a3 a4 a5 I L = some (r, I', L') → am_J x (fun S => S = (some (.int r), (KC al), (RC al), I', L')) 25 [some (.ref 0), some (.int a1), some (.int a2), some (.int a3), some (.int a4), some (.int a5), none] [] (KC al) (RC al) I L 0 0) (a1 : Int32) (a2 : Int32) (a5 : Int32) (a6 : Int32) (I : am_I) (L : am_L) (hf : fX11_hurry_b84 n d k25 a1 a2 a5 a6 I L = some (r, I', L')) : am_J x (fun S => S = (some (.int r), (KC al), (RC al), I', L')) 84 [some (.ref 0), some (.int a1), some (.int a2), none, none, some (.int a5), some (.int a6)] [] (KC al) (RC al) I L 0 0 := by
  unfold fX11_hurry_b84 at hf
  refine j_iload hc dX11_hurry_84 rfl ?_
  refine j_istore_n hc dX11_hurry_86 (Nat.le_of_ble_eq_true rfl) hf (fun v1 hf => ?_)
  refine j_iload hc dX11_hurry_87 rfl ?_
  refine j_istore hc dX11_hurry_89 (Nat.le_of_ble_eq_true rfl) hf (fun v2 hf => ?_)
  exact j_sub (tX11_hurry_b91 n d hc k25 hk25 _ _ _ _ _ _ _ hf) (And.intro rfl (And.intro rfl (And.intro rfl (And.intro rfl (And.intro rfl (And.intro rfl (trivial)))))))

set_option maxRecDepth 100000 in
def fX11_hurry_b25w (n d : Nat) (k25 : Int32 → Int32 → Int32 → Int32 → Int32 → am_I → am_L → Option (Int32 × am_I × am_L)) (a1 : Int32) (a2 : Int32) (a3 : Int32) (a4 : Int32) (a5 : Int32) (I : am_I) (L : am_L) : Option (Int32 × am_I × am_L) :=
  if (I 3 0) ≤ a5 then
    (some (a3, I, L))
    else
    (am_ck a5 8 (am_lt (I 4 (a5).toNatClampNeg) (fun v1 => if v1 = a1 then
      (am_b3 (fX7_canGo n d a5 I L) (fun v2 I2 L2 => if v2 = 0 then
        (fX11_hurry_b91 n d k25 a1 a2 a3 a4 a5 I2 L2)
        else
        (am_b3 (fX11_partsAtHome n d a5 a2 I2 L2) (fun v3 I3 L3 => am_lt v3 (fun v4 => if a3 = (-1 : Int32) then
          (fX11_hurry_b84 n d k25 a1 a2 a5 v4 I3 L3)
          else
          (if v4 ≤ a4 then
            (fX11_hurry_b91 n d k25 a1 a2 a3 a4 a5 I3 L3)
            else
            (fX11_hurry_b84 n d k25 a1 a2 a5 v4 I3 L3)))))))
      else
      (fX11_hurry_b91 n d k25 a1 a2 a3 a4 a5 I L))))

set_option maxRecDepth 100000 in
set_option maxHeartbeats 4000000 in
theorem tX11_hurry_b25w {x : am_X} {al : Bool} (n d : Nat) (hc : am_ok x cX11_hurry yX11_hurry 7 (some .int) (d + 2) 0 0) {r : Int32} {I' : am_I} {L' : am_L} (k25 : Int32 → Int32 → Int32 → Int32 → Int32 → am_I → am_L → Option (Int32 × am_I × am_L)) (hk25 : ∀ (a1 : Int32) (a2 : Int32) (a3 : Int32) (a4 : Int32) (a5 : Int32) (I : am_I) (L : am_L), k25 a1 a2 a3 a4 a5 I L = some (r, I', L') → am_J x (fun S => S = (some (.int r), (KC al), (RC al), I', L')) 25 [some (.ref 0), some (.int a1), some (.int a2), some (.int a3), some (.int a4), some (.int a5), none] [] (KC al) (RC al) I L 0 0) (a1 : Int32) (a2 : Int32) (a3 : Int32) (a4 : Int32) (a5 : Int32) (I : am_I) (L : am_L) (hf : fX11_hurry_b25w n d k25 a1 a2 a3 a4 a5 I L = some (r, I', L')) : am_J x (fun S => S = (some (.int r), (KC al), (RC al), I', L')) 25 [some (.ref 0), some (.int a1), some (.int a2), some (.int a3), some (.int a4), some (.int a5), none] [] (KC al) (RC al) I L 0 0 := by
  unfold fX11_hurry_b25w at hf
  refine j_iload hc dX11_hurry_25 rfl ?_
  refine j_aload_n hc dX11_hurry_27 rfl ?_
  refine j_getR (u := 3) hc dX11_hurry_28 (fgC_X11_19_0 _) (rC_0_1 _) ?_
  refine j_getI hc dX11_hurry_31 (fgC_X11_151_3 _) ?_
  refine j_icmp_ge (tgt := 97) hc dX11_hurry_34 rfl hf (fun hf => ?_) (fun hf => ?_)
  · refine j_iload_n hc dX11_hurry_97 rfl ?_
    exact j_ireturn hc dX11_hurry_98 rfl rfl hf
  · refine j_aload_n hc dX11_hurry_37 rfl ?_
    refine j_getR (u := 3) hc dX11_hurry_38 (fgC_X11_19_0 _) (rC_0_1 _) ?_
    refine j_getR (u := 4) hc dX11_hurry_41 (fgC_X11_165_3 _) (rC_3_5 _) ?_
    refine j_iload hc dX11_hurry_44 rfl ?_
    refine j_iaload (n := 8) hc dX11_hurry_46 (kC_4 _) hf (fun v1 hf => ?_)
    refine j_iload_n hc dX11_hurry_47 rfl ?_
    refine j_icmp_ne (tgt := 91) hc dX11_hurry_48 rfl hf (fun hf => ?_) (fun hf => ?_)
    · exact j_sub (tX11_hurry_b91 n d hc k25 hk25 _ _ _ _ _ _ _ hf) (And.intro rfl (And.intro rfl (And.intro rfl (And.intro rfl (And.intro rfl (And.intro rfl (trivial)))))))
    · refine j_aload_n hc dX11_hurry_51 rfl ?_
      refine j_getR (u := 39) hc dX11_hurry_52 (fgC_X11_56_0 _) (rC_0_6 _) ?_
      refine j_iload hc dX11_hurry_55 rfl ?_
      refine j_callVI (t := 39) (As := [.int a5]) hc dX11_hurry_57 kw_916 mX7_canGo (kC_39 _) clX7 rfl (by omega) (Nat.le_of_ble_eq_true rfl) (Nat.le_of_ble_eq_true rfl) ⟨Nat.le_refl _, Nat.le_refl _⟩ hf (fun v I' L' h => qX7_canGo x.2.1 n d a5 I L v I' L' h) (fun v2 I2 L2 hf => ?_)
      refine j_if_eq (tgt := 91) hc dX11_hurry_60 rfl hf (fun hf => ?_) (fun hf => ?_)
      · exact j_sub (tX11_hurry_b91 n d hc k25 hk25 _ _ _ _ _ _ _ hf) (And.intro rfl (And.intro rfl (And.intro rfl (And.intro rfl (And.intro rfl (And.intro rfl (trivial)))))))
      · refine j_aload_n hc dX11_hurry_63 rfl ?_
        refine j_iload hc dX11_hurry_64 rfl ?_
        refine j_iload_n hc dX11_hurry_66 rfl ?_
        refine j_callVI (t := 0) (As := [.int a5, .int a2]) hc dX11_hurry_67 kw_1386 mX11_partsAtHome (kC_0 _) clX11 rfl (by omega) (Nat.le_of_ble_eq_true rfl) (Nat.le_of_ble_eq_true rfl) ⟨Nat.le_refl _, Nat.le_refl _⟩ hf (fun v I' L' h => qX11_partsAtHome x.2.1 n d a5 a2 I2 L2 v I' L' h) (fun v3 I3 L3 hf => ?_)
        refine j_istore hc dX11_hurry_70 (Nat.le_of_ble_eq_true rfl) hf (fun v4 hf => ?_)
        refine j_iload_n hc dX11_hurry_72 rfl ?_
        refine j_iconst (v := (-1 : Int32)) hc dX11_hurry_73 ci_m1 ?_
        refine j_icmp_eq (tgt := 84) hc dX11_hurry_74 rfl hf (fun hf => ?_) (fun hf => ?_)
        · exact j_sub (tX11_hurry_b84 n d hc k25 hk25 _ _ _ _ _ _ hf) (And.intro rfl (And.intro rfl (And.intro rfl (And.intro rfl (And.intro rfl (trivial))))))
        · refine j_iload hc dX11_hurry_77 rfl ?_
          refine j_iload hc dX11_hurry_79 rfl ?_
          refine j_icmp_le (tgt := 91) hc dX11_hurry_81 rfl hf (fun hf => ?_) (fun hf => ?_)
          · exact j_sub (tX11_hurry_b91 n d hc k25 hk25 _ _ _ _ _ _ _ hf) (And.intro rfl (And.intro rfl (And.intro rfl (And.intro rfl (And.intro rfl (And.intro rfl (trivial)))))))
          · exact j_sub (tX11_hurry_b84 n d hc k25 hk25 _ _ _ _ _ _ hf) (And.intro rfl (And.intro rfl (And.intro rfl (And.intro rfl (And.intro rfl (trivial))))))

def fX11_hurry_b25 (n d : Nat) : Nat → Int32 → Int32 → Int32 → Int32 → Int32 → am_I → am_L → Option (Int32 × am_I × am_L)
  | 0 => fun _ _ _ _ _ _ _ => none
  | m + 1 => fX11_hurry_b25w n d  (fX11_hurry_b25 n d m)

set_option maxRecDepth 100000 in
theorem tX11_hurry_b25 {x : am_X} {al : Bool} (n d : Nat) (hc : am_ok x cX11_hurry yX11_hurry 7 (some .int) (d + 2) 0 0) {r : Int32} {I' : am_I} {L' : am_L} (m : Nat) : ∀ (a1 : Int32) (a2 : Int32) (a3 : Int32) (a4 : Int32) (a5 : Int32) (I : am_I) (L : am_L) (hf : fX11_hurry_b25 n d m a1 a2 a3 a4 a5 I L = some (r, I', L')), am_J x (fun S => S = (some (.int r), (KC al), (RC al), I', L')) 25 [some (.ref 0), some (.int a1), some (.int a2), some (.int a3), some (.int a4), some (.int a5), none] [] (KC al) (RC al) I L 0 0 := by
  induction m with
  | zero => intro a1 a2 a3 a4 a5 I L hf; exact (Option.some_ne_none _ hf.symm).elim
  | succ m ih => intro a1 a2 a3 a4 a5 I L hf; exact tX11_hurry_b25w n d hc (fX11_hurry_b25 n d m) ih a1 a2 a3 a4 a5 I L hf

set_option maxRecDepth 100000 in
def fX11_hurry (n d : Nat) (a1 : Int32) (a2 : Int32) (I : am_I) (L : am_L) : Option (Int32 × am_I × am_L) :=
  am_b3 (fX11_isSideOfWar n d a1 I L) (fun v1 I1 L1 => if v1 = 0 then
    (some ((-1 : Int32), I1, L1))
    else
    (am_b3 (fX11_isOddsSpan n d a2 I1 L1) (fun v2 I2 L2 => if v2 = 0 then
      (some ((-1 : Int32), I2, L2))
      else
      (am_lt (-1 : Int32) (fun v3 => am_lt (0 : Int32) (fun v4 => am_lt (0 : Int32) (fun v5 => fX11_hurry_b25 n d n a1 a2 v3 v4 v5 I2 L2)))))))

set_option maxRecDepth 100000 in
set_option maxHeartbeats 4000000 in
theorem tX11_hurry {x : am_X} {al : Bool} (n d : Nat) (hc : am_ok x cX11_hurry yX11_hurry 7 (some .int) (d + 2) 0 0) {r : Int32} {I' : am_I} {L' : am_L} (a1 : Int32) (a2 : Int32) (I : am_I) (L : am_L) (hf : fX11_hurry n d a1 a2 I L = some (r, I', L')) : am_J x (fun S => S = (some (.int r), (KC al), (RC al), I', L')) 0 [some (.ref 0), some (.int a1), some (.int a2), none, none, none, none] [] (KC al) (RC al) I L 0 0 := by
  unfold fX11_hurry at hf
  refine j_aload_n hc dX11_hurry_0 rfl ?_
  refine j_iload_n hc dX11_hurry_1 rfl ?_
  refine j_callVI (t := 0) (As := [.int a1]) hc dX11_hurry_2 kw_1152 mX11_isSideOfWar (kC_0 _) clX11 rfl (by omega) (Nat.le_of_ble_eq_true rfl) (Nat.le_of_ble_eq_true rfl) ⟨Nat.le_refl _, Nat.le_refl _⟩ hf (fun v I' L' h => qX11_isSideOfWar x.2.1 n d a1 I L v I' L' h) (fun v1 I1 L1 hf => ?_)
  refine j_if_eq (tgt := 15) hc dX11_hurry_5 rfl hf (fun hf => ?_) (fun hf => ?_)
  · refine j_iconst (v := (-1 : Int32)) hc dX11_hurry_15 ci_m1 ?_
    exact j_ireturn hc dX11_hurry_16 rfl rfl hf
  · refine j_iload_n hc dX11_hurry_8 rfl ?_
    refine j_callSI (As := [.int a2]) hc dX11_hurry_9 kw_1383 mX11_isOddsSpan  rfl (by omega) (Nat.le_of_ble_eq_true rfl) (Nat.le_of_ble_eq_true rfl) ⟨Nat.le_refl _, Nat.le_refl _⟩ hf (fun v I' L' h => qX11_isOddsSpan x.2.1 n d a2 I1 L1 v I' L' h) (fun v2 I2 L2 hf => ?_)
    refine j_if_ne (tgt := 17) hc dX11_hurry_12 rfl hf (fun hf => ?_) (fun hf => ?_)
    · refine j_iconst (v := (-1 : Int32)) hc dX11_hurry_17 ci_m1 ?_
      refine j_istore_n hc dX11_hurry_18 (Nat.le_of_ble_eq_true rfl) hf (fun v3 hf => ?_)
      refine j_iconst (v := (0 : Int32)) hc dX11_hurry_19 ci_0 ?_
      refine j_istore hc dX11_hurry_20 (Nat.le_of_ble_eq_true rfl) hf (fun v4 hf => ?_)
      refine j_iconst (v := (0 : Int32)) hc dX11_hurry_22 ci_0 ?_
      refine j_istore hc dX11_hurry_23 (Nat.le_of_ble_eq_true rfl) hf (fun v5 hf => ?_)
      exact j_sub (tX11_hurry_b25 n d hc n _ _ _ _ _ _ _ hf) (And.intro rfl (And.intro rfl (And.intro rfl (And.intro rfl (And.intro rfl (And.intro rfl (trivial)))))))
    · refine j_iconst (v := (-1 : Int32)) hc dX11_hurry_15 ci_m1 ?_
      exact j_ireturn hc dX11_hurry_16 rfl rfl hf

set_option maxRecDepth 100000 in
theorem qX11_hurry (l : Launch) {al : Bool} (n d : Nat) (a1 : Int32) (a2 : Int32) (I : am_I) (L : am_L) (r : Int32) (I' : am_I) (L' : am_L) (hf : fX11_hurry n d a1 a2 I L = some (r, I', L')) : am_C l yX11_hurry cX11_hurry 7 (some .int) (d + 2) [.ref 0, .int a1, .int a2] (KC al) (RC al) I L (some (.int r)) I' L' := by
  exact am_intro (plainFor_of_name plX11) (fun _ _ => trivial) (Nat.le_of_ble_eq_true rfl) (fun x hl hc => by subst hl; exact j_sub (tX11_hurry n d hc _ _ _ _ hf) (And.intro rfl (And.intro rfl (And.intro rfl (trivial)))))
set_option maxRecDepth 100000 in
def fX11_behind (n d : Nat) (a1 : Int32) (I : am_I) (L : am_L) : Option (Int32 × am_I × am_L) :=
  am_b3 (fX11_isSideOfWar n d a1 I L) (fun v1 I1 L1 => if v1 = 0 then
    (some ((-1 : Int32), I1, L1))
    else
    (am_ck a1 2 (am_lt (I1 13 (a1).toNatClampNeg) (fun v2 => some ((v2 &&& ((I1 39 6) ^^^ (-1 : Int32))), I1, L1)))))

set_option maxRecDepth 100000 in
set_option maxHeartbeats 4000000 in
theorem tX11_behind {x : am_X} {al : Bool} (n d : Nat) (hc : am_ok x cX11_behind yX11_behind 2 (some .int) (d + 2) 0 0) {r : Int32} {I' : am_I} {L' : am_L} (a1 : Int32) (I : am_I) (L : am_L) (hf : fX11_behind n d a1 I L = some (r, I', L')) : am_J x (fun S => S = (some (.int r), (KC al), (RC al), I', L')) 0 [some (.ref 0), some (.int a1)] [] (KC al) (RC al) I L 0 0 := by
  unfold fX11_behind at hf
  refine j_aload_n hc dX11_behind_0 rfl ?_
  refine j_iload_n hc dX11_behind_1 rfl ?_
  refine j_callVI (t := 0) (As := [.int a1]) hc dX11_behind_2 kw_1152 mX11_isSideOfWar (kC_0 _) clX11 rfl (by omega) (Nat.le_of_ble_eq_true rfl) (Nat.le_of_ble_eq_true rfl) ⟨Nat.le_refl _, Nat.le_refl _⟩ hf (fun v I' L' h => qX11_isSideOfWar x.2.1 n d a1 I L v I' L' h) (fun v1 I1 L1 hf => ?_)
  refine j_if_eq (tgt := 30) hc dX11_behind_5 rfl hf (fun hf => ?_) (fun hf => ?_)
  · refine j_iconst (v := (-1 : Int32)) hc dX11_behind_30 ci_m1 ?_
    exact j_ireturn hc dX11_behind_31 rfl rfl hf
  · refine j_aload_n hc dX11_behind_8 rfl ?_
    refine j_getR (u := 3) hc dX11_behind_9 (fgC_X11_19_0 _) (rC_0_1 _) ?_
    refine j_getR (u := 13) hc dX11_behind_12 (fgC_X11_397_3 _) (rC_3_14 _) ?_
    refine j_iload_n hc dX11_behind_15 rfl ?_
    refine j_iaload (n := 2) hc dX11_behind_16 (kC_13 _) hf (fun v2 hf => ?_)
    refine j_aload_n hc dX11_behind_17 rfl ?_
    refine j_getR (u := 39) hc dX11_behind_18 (fgC_X11_56_0 _) (rC_0_6 _) ?_
    refine j_getI hc dX11_behind_21 (fgC_X11_224_39 _) ?_
    refine j_iconst (v := (-1 : Int32)) hc dX11_behind_24 ci_m1 ?_
    refine j_ixor hc dX11_behind_25 ?_
    refine j_iand hc dX11_behind_26 ?_
    refine j_goto (tgt := 31) hc dX11_behind_27 rfl ?_
    exact j_ireturn hc dX11_behind_31 rfl rfl hf

set_option maxRecDepth 100000 in
theorem qX11_behind (l : Launch) {al : Bool} (n d : Nat) (a1 : Int32) (I : am_I) (L : am_L) (r : Int32) (I' : am_I) (L' : am_L) (hf : fX11_behind n d a1 I L = some (r, I', L')) : am_C l yX11_behind cX11_behind 2 (some .int) (d + 2) [.ref 0, .int a1] (KC al) (RC al) I L (some (.int r)) I' L' := by
  exact am_intro (plainFor_of_name plX11) (fun _ _ => trivial) (Nat.le_of_ble_eq_true rfl) (fun x hl hc => by subst hl; exact j_sub (tX11_behind n d hc _ _ _ hf) (And.intro rfl (And.intro rfl (trivial))))
set_option maxRecDepth 100000 in
def fX11_next_b77 (n d : Nat) (k17 : Int32 → Int32 → Int32 → am_I → am_L → Option (Int32 × am_I × am_L)) (a1 : Int32) (a2 : Int32) (a3 : Int32) (I : am_I) (L : am_L) : Option (Int32 × am_I × am_L) :=
  am_lt (a3 + (1 : Int32)) (fun v1 => k17 a1 a2 v1 I L)

set_option maxRecDepth 100000 in
set_option maxHeartbeats 4000000 in
theorem tX11_next_b77 {x : am_X} {al : Bool} (n d : Nat) (hc : am_ok x cX11_next yX11_next 4 (some .int) (d + 2) 0 0) {r : Int32} {I' : am_I} {L' : am_L} (k17 : Int32 → Int32 → Int32 → am_I → am_L → Option (Int32 × am_I × am_L)) (hk17 : ∀ (a1 : Int32) (a2 : Int32) (a3 : Int32) (I : am_I) (L : am_L), k17 a1 a2 a3 I L = some (r, I', L') → am_J x (fun S => S = (some (.int r), (KC al), (RC al), I', L')) 17 [some (.ref 0), some (.int a1), some (.int a2), some (.int a3)] [] (KC al) (RC al) I L 0 0) (a1 : Int32) (a2 : Int32) (a3 : Int32) (I : am_I) (L : am_L) (hf : fX11_next_b77 n d k17 a1 a2 a3 I L = some (r, I', L')) : am_J x (fun S => S = (some (.int r), (KC al), (RC al), I', L')) 77 [some (.ref 0), some (.int a1), some (.int a2), some (.int a3)] [] (KC al) (RC al) I L 0 0 := by
  unfold fX11_next_b77 at hf
  refine j_iinc (w := (1 : Int32)) hc dX11_next_77 rfl ci_1 (Nat.le_of_ble_eq_true rfl) hf (fun v1 hf => ?_)
  refine j_goto (tgt := 17) hc dX11_next_80 rfl ?_
  exact j_sub (hk17 _ _ _ _ _ hf) (And.intro rfl (And.intro rfl (And.intro rfl (And.intro rfl (trivial)))))

set_option maxRecDepth 100000 in
def fX11_next_b75 (n d : Nat) (k17 : Int32 → Int32 → Int32 → am_I → am_L → Option (Int32 × am_I × am_L)) (a1 : Int32) (a3 : Int32) (I : am_I) (L : am_L) : Option (Int32 × am_I × am_L) :=
  am_lt a3 (fun v1 => fX11_next_b77 n d k17 a1 v1 a3 I L)

set_option maxRecDepth 100000 in
set_option maxHeartbeats 4000000 in
theorem tX11_next_b75 {x : am_X} {al : Bool} (n d : Nat) (hc : am_ok x cX11_next yX11_next 4 (some .int) (d + 2) 0 0) {r : Int32} {I' : am_I} {L' : am_L} (k17 : Int32 → Int32 → Int32 → am_I → am_L → Option (Int32 × am_I × am_L)) (hk17 : ∀ (a1 : Int32) (a2 : Int32) (a3 : Int32) (I : am_I) (L : am_L), k17 a1 a2 a3 I L = some (r, I', L') → am_J x (fun S => S = (some (.int r), (KC al), (RC al), I', L')) 17 [some (.ref 0), some (.int a1), some (.int a2), some (.int a3)] [] (KC al) (RC al) I L 0 0) (a1 : Int32) (a3 : Int32) (I : am_I) (L : am_L) (hf : fX11_next_b75 n d k17 a1 a3 I L = some (r, I', L')) : am_J x (fun S => S = (some (.int r), (KC al), (RC al), I', L')) 75 [some (.ref 0), some (.int a1), none, some (.int a3)] [] (KC al) (RC al) I L 0 0 := by
  unfold fX11_next_b75 at hf
  refine j_iload_n hc dX11_next_75 rfl ?_
  refine j_istore_n hc dX11_next_76 (Nat.le_of_ble_eq_true rfl) hf (fun v1 hf => ?_)
  exact j_sub (tX11_next_b77 n d hc k17 hk17 _ _ _ _ _ hf) (And.intro rfl (And.intro rfl (And.intro rfl (And.intro rfl (trivial)))))

set_option maxRecDepth 100000 in
def fX11_next_b17w (n d : Nat) (k17 : Int32 → Int32 → Int32 → am_I → am_L → Option (Int32 × am_I × am_L)) (a1 : Int32) (a2 : Int32) (a3 : Int32) (I : am_I) (L : am_L) : Option (Int32 × am_I × am_L) :=
  if (I 3 1) ≤ a3 then
    (some (a2, I, L))
    else
    (am_ck a3 6 (am_lt (I 10 (a3).toNatClampNeg) (fun v1 => am_ck a1 8 (am_lt (I 40 (a1).toNatClampNeg) (fun v2 => if v2 ≤ v1 then
      (fX11_next_b77 n d k17 a1 a2 a3 I L)
      else
      (if a2 = (-1 : Int32) then
        (fX11_next_b75 n d k17 a1 a3 I L)
        else
        (am_ck a3 6 (am_lt (I 10 (a3).toNatClampNeg) (fun v3 => am_ck a2 6 (am_lt (I 10 (a2).toNatClampNeg) (fun v4 => if v3 ≤ v4 then
          (fX11_next_b77 n d k17 a1 a2 a3 I L)
          else
          (fX11_next_b75 n d k17 a1 a3 I L))))))))))))

set_option maxRecDepth 100000 in
set_option maxHeartbeats 4000000 in
theorem tX11_next_b17w {x : am_X} {al : Bool} (n d : Nat) (hc : am_ok x cX11_next yX11_next 4 (some .int) (d + 2) 0 0) {r : Int32} {I' : am_I} {L' : am_L} (k17 : Int32 → Int32 → Int32 → am_I → am_L → Option (Int32 × am_I × am_L)) (hk17 : ∀ (a1 : Int32) (a2 : Int32) (a3 : Int32) (I : am_I) (L : am_L), k17 a1 a2 a3 I L = some (r, I', L') → am_J x (fun S => S = (some (.int r), (KC al), (RC al), I', L')) 17 [some (.ref 0), some (.int a1), some (.int a2), some (.int a3)] [] (KC al) (RC al) I L 0 0) (a1 : Int32) (a2 : Int32) (a3 : Int32) (I : am_I) (L : am_L) (hf : fX11_next_b17w n d k17 a1 a2 a3 I L = some (r, I', L')) : am_J x (fun S => S = (some (.int r), (KC al), (RC al), I', L')) 17 [some (.ref 0), some (.int a1), some (.int a2), some (.int a3)] [] (KC al) (RC al) I L 0 0 := by
  unfold fX11_next_b17w at hf
  refine j_iload_n hc dX11_next_17 rfl ?_
  refine j_aload_n hc dX11_next_18 rfl ?_
  refine j_getR (u := 3) hc dX11_next_19 (fgC_X11_19_0 _) (rC_0_1 _) ?_
  refine j_getI hc dX11_next_22 (fgC_X11_194_3 _) ?_
  refine j_icmp_ge (tgt := 83) hc dX11_next_25 rfl hf (fun hf => ?_) (fun hf => ?_)
  · refine j_iload_n hc dX11_next_83 rfl ?_
    exact j_ireturn hc dX11_next_84 rfl rfl hf
  · refine j_aload_n hc dX11_next_28 rfl ?_
    refine j_getR (u := 3) hc dX11_next_29 (fgC_X11_19_0 _) (rC_0_1 _) ?_
    refine j_getR (u := 10) hc dX11_next_32 (fgC_X11_197_3 _) (rC_3_11 _) ?_
    refine j_iload_n hc dX11_next_35 rfl ?_
    refine j_iaload (n := 6) hc dX11_next_36 (kC_10 _) hf (fun v1 hf => ?_)
    refine j_aload_n hc dX11_next_37 rfl ?_
    refine j_getR (u := 39) hc dX11_next_38 (fgC_X11_56_0 _) (rC_0_6 _) ?_
    refine j_getR (u := 40) hc dX11_next_41 (fgC_X11_168_39 _) (rC_39_2 _) ?_
    refine j_iload_n hc dX11_next_44 rfl ?_
    refine j_iaload (n := 8) hc dX11_next_45 (kC_40 _) hf (fun v2 hf => ?_)
    refine j_icmp_ge (tgt := 77) hc dX11_next_46 rfl hf (fun hf => ?_) (fun hf => ?_)
    · exact j_sub (tX11_next_b77 n d hc k17 hk17 _ _ _ _ _ hf) (And.intro rfl (And.intro rfl (And.intro rfl (And.intro rfl (trivial)))))
    · refine j_iload_n hc dX11_next_49 rfl ?_
      refine j_iconst (v := (-1 : Int32)) hc dX11_next_50 ci_m1 ?_
      refine j_icmp_eq (tgt := 75) hc dX11_next_51 rfl hf (fun hf => ?_) (fun hf => ?_)
      · exact j_sub (tX11_next_b75 n d hc k17 hk17 _ _ _ _ hf) (And.intro rfl (And.intro rfl (And.intro rfl (trivial))))
      · refine j_aload_n hc dX11_next_54 rfl ?_
        refine j_getR (u := 3) hc dX11_next_55 (fgC_X11_19_0 _) (rC_0_1 _) ?_
        refine j_getR (u := 10) hc dX11_next_58 (fgC_X11_197_3 _) (rC_3_11 _) ?_
        refine j_iload_n hc dX11_next_61 rfl ?_
        refine j_iaload (n := 6) hc dX11_next_62 (kC_10 _) hf (fun v3 hf => ?_)
        refine j_aload_n hc dX11_next_63 rfl ?_
        refine j_getR (u := 3) hc dX11_next_64 (fgC_X11_19_0 _) (rC_0_1 _) ?_
        refine j_getR (u := 10) hc dX11_next_67 (fgC_X11_197_3 _) (rC_3_11 _) ?_
        refine j_iload_n hc dX11_next_70 rfl ?_
        refine j_iaload (n := 6) hc dX11_next_71 (kC_10 _) hf (fun v4 hf => ?_)
        refine j_icmp_le (tgt := 77) hc dX11_next_72 rfl hf (fun hf => ?_) (fun hf => ?_)
        · exact j_sub (tX11_next_b77 n d hc k17 hk17 _ _ _ _ _ hf) (And.intro rfl (And.intro rfl (And.intro rfl (And.intro rfl (trivial)))))
        · exact j_sub (tX11_next_b75 n d hc k17 hk17 _ _ _ _ hf) (And.intro rfl (And.intro rfl (And.intro rfl (trivial))))

def fX11_next_b17 (n d : Nat) : Nat → Int32 → Int32 → Int32 → am_I → am_L → Option (Int32 × am_I × am_L)
  | 0 => fun _ _ _ _ _ => none
  | m + 1 => fX11_next_b17w n d  (fX11_next_b17 n d m)

set_option maxRecDepth 100000 in
theorem tX11_next_b17 {x : am_X} {al : Bool} (n d : Nat) (hc : am_ok x cX11_next yX11_next 4 (some .int) (d + 2) 0 0) {r : Int32} {I' : am_I} {L' : am_L} (m : Nat) : ∀ (a1 : Int32) (a2 : Int32) (a3 : Int32) (I : am_I) (L : am_L) (hf : fX11_next_b17 n d m a1 a2 a3 I L = some (r, I', L')), am_J x (fun S => S = (some (.int r), (KC al), (RC al), I', L')) 17 [some (.ref 0), some (.int a1), some (.int a2), some (.int a3)] [] (KC al) (RC al) I L 0 0 := by
  induction m with
  | zero => intro a1 a2 a3 I L hf; exact (Option.some_ne_none _ hf.symm).elim
  | succ m ih => intro a1 a2 a3 I L hf; exact tX11_next_b17w n d hc (fX11_next_b17 n d m) ih a1 a2 a3 I L hf

set_option maxRecDepth 100000 in
def fX11_next (n d : Nat) (a1 : Int32) (I : am_I) (L : am_L) : Option (Int32 × am_I × am_L) :=
  am_b3 (fX9_hasMan_war n d a1 I L) (fun v1 I1 L1 => if v1 = 0 then
    (some ((-1 : Int32), I1, L1))
    else
    (am_lt (-1 : Int32) (fun v2 => am_lt (0 : Int32) (fun v3 => fX11_next_b17 n d n a1 v2 v3 I1 L1))))

set_option maxRecDepth 100000 in
set_option maxHeartbeats 4000000 in
theorem tX11_next {x : am_X} {al : Bool} (n d : Nat) (hc : am_ok x cX11_next yX11_next 4 (some .int) (d + 2) 0 0) {r : Int32} {I' : am_I} {L' : am_L} (a1 : Int32) (I : am_I) (L : am_L) (hf : fX11_next n d a1 I L = some (r, I', L')) : am_J x (fun S => S = (some (.int r), (KC al), (RC al), I', L')) 0 [some (.ref 0), some (.int a1), none, none] [] (KC al) (RC al) I L 0 0 := by
  unfold fX11_next at hf
  refine j_aload_n hc dX11_next_0 rfl ?_
  refine j_getR (u := 3) hc dX11_next_1 (fgC_X11_19_0 _) (rC_0_1 _) ?_
  refine j_iload_n hc dX11_next_4 rfl ?_
  refine j_callVI (t := 3) (As := [.int a1]) hc dX11_next_5 kw_978 mX9_hasMan (kC_3 _) clX9 rfl (by omega) (Nat.le_of_ble_eq_true rfl) (Nat.le_of_ble_eq_true rfl) ⟨Nat.le_refl _, Nat.le_refl _⟩ hf (fun v I' L' h => qX9_hasMan_war x.2.1 n d a1 I L v I' L' h) (fun v1 I1 L1 hf => ?_)
  refine j_if_ne (tgt := 13) hc dX11_next_8 rfl hf (fun hf => ?_) (fun hf => ?_)
  · refine j_iconst (v := (-1 : Int32)) hc dX11_next_13 ci_m1 ?_
    refine j_istore_n hc dX11_next_14 (Nat.le_of_ble_eq_true rfl) hf (fun v2 hf => ?_)
    refine j_iconst (v := (0 : Int32)) hc dX11_next_15 ci_0 ?_
    refine j_istore_n hc dX11_next_16 (Nat.le_of_ble_eq_true rfl) hf (fun v3 hf => ?_)
    exact j_sub (tX11_next_b17 n d hc n _ _ _ _ _ hf) (And.intro rfl (And.intro rfl (And.intro rfl (And.intro rfl (trivial)))))
  · refine j_iconst (v := (-1 : Int32)) hc dX11_next_11 ci_m1 ?_
    exact j_ireturn hc dX11_next_12 rfl rfl hf

set_option maxRecDepth 100000 in
theorem qX11_next (l : Launch) {al : Bool} (n d : Nat) (a1 : Int32) (I : am_I) (L : am_L) (r : Int32) (I' : am_I) (L' : am_L) (hf : fX11_next n d a1 I L = some (r, I', L')) : am_C l yX11_next cX11_next 4 (some .int) (d + 2) [.ref 0, .int a1] (KC al) (RC al) I L (some (.int r)) I' L' := by
  exact am_intro (plainFor_of_name plX11) (fun _ _ => trivial) (Nat.le_of_ble_eq_true rfl) (fun x hl hc => by subst hl; exact j_sub (tX11_next n d hc _ _ _ hf) (And.intro rfl (And.intro rfl (trivial))))
set_option maxRecDepth 100000 in
def fX11_last (n d : Nat) (I : am_I) (L : am_L) : Option (Int32 × am_I × am_L) :=
  if (I 3 0) = 0 then
    (some ((-1 : Int32), I, L))
    else
    (am_b3 (fX9_allBits_war n d I L) (fun v1 I1 L1 => am_b3 (fX11_farthest n d v1 I1 L1) (fun v2 I2 L2 => some (v2, I2, L2))))

set_option maxRecDepth 100000 in
set_option maxHeartbeats 4000000 in
theorem tX11_last {x : am_X} {al : Bool} (n d : Nat) (hc : am_ok x cX11_last yX11_last 1 (some .int) (d + 2) 0 0) {r : Int32} {I' : am_I} {L' : am_L} (I : am_I) (L : am_L) (hf : fX11_last n d I L = some (r, I', L')) : am_J x (fun S => S = (some (.int r), (KC al), (RC al), I', L')) 0 [some (.ref 0)] [] (KC al) (RC al) I L 0 0 := by
  unfold fX11_last at hf
  refine j_aload_n hc dX11_last_0 rfl ?_
  refine j_getR (u := 3) hc dX11_last_1 (fgC_X11_19_0 _) (rC_0_1 _) ?_
  refine j_getI hc dX11_last_4 (fgC_X11_151_3 _) ?_
  refine j_if_ne (tgt := 14) hc dX11_last_7 rfl hf (fun hf => ?_) (fun hf => ?_)
  · refine j_aload_n hc dX11_last_14 rfl ?_
    refine j_aload_n hc dX11_last_15 rfl ?_
    refine j_getR (u := 3) hc dX11_last_16 (fgC_X11_19_0 _) (rC_0_1 _) ?_
    refine j_callVI (t := 3) (As := []) hc dX11_last_19 kw_1261 mX9_allBits (kC_3 _) clX9 rfl (by omega) (Nat.le_of_ble_eq_true rfl) (Nat.le_of_ble_eq_true rfl) ⟨Nat.le_refl _, Nat.le_refl _⟩ hf (fun v I' L' h => qX9_allBits_war x.2.1 n d I L v I' L' h) (fun v1 I1 L1 hf => ?_)
    refine j_callVI (t := 0) (As := [.int v1]) hc dX11_last_22 kw_1252 mX11_farthest (kC_0 _) clX11 rfl (by omega) (Nat.le_of_ble_eq_true rfl) (Nat.le_of_ble_eq_true rfl) ⟨Nat.le_refl _, Nat.le_refl _⟩ hf (fun v I' L' h => qX11_farthest x.2.1 n d v1 I1 L1 v I' L' h) (fun v2 I2 L2 hf => ?_)
    exact j_ireturn hc dX11_last_25 rfl rfl hf
  · refine j_iconst (v := (-1 : Int32)) hc dX11_last_10 ci_m1 ?_
    refine j_goto (tgt := 25) hc dX11_last_11 rfl ?_
    exact j_ireturn hc dX11_last_25 rfl rfl hf

set_option maxRecDepth 100000 in
theorem qX11_last (l : Launch) {al : Bool} (n d : Nat) (I : am_I) (L : am_L) (r : Int32) (I' : am_I) (L' : am_L) (hf : fX11_last n d I L = some (r, I', L')) : am_C l yX11_last cX11_last 1 (some .int) (d + 2) [.ref 0] (KC al) (RC al) I L (some (.int r)) I' L' := by
  exact am_intro (plainFor_of_name plX11) (fun _ _ => trivial) (Nat.le_of_ble_eq_true rfl) (fun x hl hc => by subst hl; exact j_sub (tX11_last n d hc  _ _ hf) (And.intro rfl (trivial)))
set_option maxRecDepth 100000 in
def fX11_even_b62 (n d : Nat) (k16 : Int32 → Int32 → am_I → am_L → Option (Int32 × am_I × am_L)) (s0 : Int32) (s1 : Int32) (a2 : Int32) (I : am_I) (L : am_L) : Option (Int32 × am_I × am_L) :=
  am_lt (s0 + s1) (fun v1 => am_lt (a2 + (1 : Int32)) (fun v2 => k16 v1 v2 I L))

set_option maxRecDepth 100000 in
set_option maxHeartbeats 4000000 in
theorem tX11_even_b62 {x : am_X} {al : Bool} (n d : Nat) (hc : am_ok x cX11_even yX11_even 3 (some .int) (d + 1) 0 0) {r : Int32} {I' : am_I} {L' : am_L} (k16 : Int32 → Int32 → am_I → am_L → Option (Int32 × am_I × am_L)) (hk16 : ∀ (a1 : Int32) (a2 : Int32) (I : am_I) (L : am_L), k16 a1 a2 I L = some (r, I', L') → am_J x (fun S => S = (some (.int r), (KC al), (RC al), I', L')) 16 [some (.ref 0), some (.int a1), some (.int a2)] [] (KC al) (RC al) I L 0 0) (s0 : Int32) (s1 : Int32) (a2 : Int32) (I : am_I) (L : am_L) (hf : fX11_even_b62 n d k16 s0 s1 a2 I L = some (r, I', L')) : am_J x (fun S => S = (some (.int r), (KC al), (RC al), I', L')) 62 [some (.ref 0), none, some (.int a2)] [.int s1, .int s0] (KC al) (RC al) I L 0 0 := by
  unfold fX11_even_b62 at hf
  refine j_iadd hc dX11_even_62 ?_
  refine j_istore_n hc dX11_even_63 (Nat.le_of_ble_eq_true rfl) hf (fun v1 hf => ?_)
  refine j_iinc (w := (1 : Int32)) hc dX11_even_64 rfl ci_1 (Nat.le_of_ble_eq_true rfl) hf (fun v2 hf => ?_)
  refine j_goto (tgt := 16) hc dX11_even_67 rfl ?_
  exact j_sub (hk16 _ _ _ _ hf) (And.intro rfl (And.intro rfl (And.intro rfl (trivial))))

set_option maxRecDepth 100000 in
def fX11_even_b16w (n d : Nat) (k16 : Int32 → Int32 → am_I → am_L → Option (Int32 × am_I × am_L)) (a1 : Int32) (a2 : Int32) (I : am_I) (L : am_L) : Option (Int32 × am_I × am_L) :=
  if (I 3 0) ≤ a2 then
    (if a1 = 0 then
      (some ((1 : Int32), I, L))
      else
      (some ((0 : Int32), I, L)))
    else
    (am_ck a2 8 (am_lt (I 4 (a2).toNatClampNeg) (fun v1 => if v1 = 0 then
      (am_ck a2 8 (am_lt (I 40 (a2).toNatClampNeg) (fun v3 => fX11_even_b62 n d k16 a1 v3 a2 I L)))
      else
      (am_ck a2 8 (am_lt (I 40 (a2).toNatClampNeg) (fun v2 => fX11_even_b62 n d k16 a1 (-v2) a2 I L))))))

set_option maxRecDepth 100000 in
set_option maxHeartbeats 4000000 in
theorem tX11_even_b16w {x : am_X} {al : Bool} (n d : Nat) (hc : am_ok x cX11_even yX11_even 3 (some .int) (d + 1) 0 0) {r : Int32} {I' : am_I} {L' : am_L} (k16 : Int32 → Int32 → am_I → am_L → Option (Int32 × am_I × am_L)) (hk16 : ∀ (a1 : Int32) (a2 : Int32) (I : am_I) (L : am_L), k16 a1 a2 I L = some (r, I', L') → am_J x (fun S => S = (some (.int r), (KC al), (RC al), I', L')) 16 [some (.ref 0), some (.int a1), some (.int a2)] [] (KC al) (RC al) I L 0 0) (a1 : Int32) (a2 : Int32) (I : am_I) (L : am_L) (hf : fX11_even_b16w n d k16 a1 a2 I L = some (r, I', L')) : am_J x (fun S => S = (some (.int r), (KC al), (RC al), I', L')) 16 [some (.ref 0), some (.int a1), some (.int a2)] [] (KC al) (RC al) I L 0 0 := by
  unfold fX11_even_b16w at hf
  refine j_iload_n hc dX11_even_16 rfl ?_
  refine j_aload_n hc dX11_even_17 rfl ?_
  refine j_getR (u := 3) hc dX11_even_18 (fgC_X11_19_0 _) (rC_0_1 _) ?_
  refine j_getI hc dX11_even_21 (fgC_X11_151_3 _) ?_
  refine j_icmp_ge (tgt := 70) hc dX11_even_24 rfl hf (fun hf => ?_) (fun hf => ?_)
  · refine j_iload_n hc dX11_even_70 rfl ?_
    refine j_if_ne (tgt := 78) hc dX11_even_71 rfl hf (fun hf => ?_) (fun hf => ?_)
    · refine j_iconst (v := (0 : Int32)) hc dX11_even_78 ci_0 ?_
      exact j_ireturn hc dX11_even_79 rfl rfl hf
    · refine j_iconst (v := (1 : Int32)) hc dX11_even_74 ci_1 ?_
      refine j_goto (tgt := 79) hc dX11_even_75 rfl ?_
      exact j_ireturn hc dX11_even_79 rfl rfl hf
  · refine j_iload_n hc dX11_even_27 rfl ?_
    refine j_aload_n hc dX11_even_28 rfl ?_
    refine j_getR (u := 3) hc dX11_even_29 (fgC_X11_19_0 _) (rC_0_1 _) ?_
    refine j_getR (u := 4) hc dX11_even_32 (fgC_X11_165_3 _) (rC_3_5 _) ?_
    refine j_iload_n hc dX11_even_35 rfl ?_
    refine j_iaload (n := 8) hc dX11_even_36 (kC_4 _) hf (fun v1 hf => ?_)
    refine j_if_ne (tgt := 52) hc dX11_even_37 rfl hf (fun hf => ?_) (fun hf => ?_)
    · refine j_aload_n hc dX11_even_52 rfl ?_
      refine j_getR (u := 39) hc dX11_even_53 (fgC_X11_56_0 _) (rC_0_6 _) ?_
      refine j_getR (u := 40) hc dX11_even_56 (fgC_X11_168_39 _) (rC_39_2 _) ?_
      refine j_iload_n hc dX11_even_59 rfl ?_
      refine j_iaload (n := 8) hc dX11_even_60 (kC_40 _) hf (fun v2 hf => ?_)
      refine j_ineg hc dX11_even_61 ?_
      exact j_sub (tX11_even_b62 n d hc k16 hk16 _ _ _ _ _ hf) (And.intro rfl (And.intro rfl (trivial)))
    · refine j_aload_n hc dX11_even_40 rfl ?_
      refine j_getR (u := 39) hc dX11_even_41 (fgC_X11_56_0 _) (rC_0_6 _) ?_
      refine j_getR (u := 40) hc dX11_even_44 (fgC_X11_168_39 _) (rC_39_2 _) ?_
      refine j_iload_n hc dX11_even_47 rfl ?_
      refine j_iaload (n := 8) hc dX11_even_48 (kC_40 _) hf (fun v3 hf => ?_)
      refine j_goto (tgt := 62) hc dX11_even_49 rfl ?_
      exact j_sub (tX11_even_b62 n d hc k16 hk16 _ _ _ _ _ hf) (And.intro rfl (And.intro rfl (trivial)))

def fX11_even_b16 (n d : Nat) : Nat → Int32 → Int32 → am_I → am_L → Option (Int32 × am_I × am_L)
  | 0 => fun _ _ _ _ => none
  | m + 1 => fX11_even_b16w n d  (fX11_even_b16 n d m)

set_option maxRecDepth 100000 in
theorem tX11_even_b16 {x : am_X} {al : Bool} (n d : Nat) (hc : am_ok x cX11_even yX11_even 3 (some .int) (d + 1) 0 0) {r : Int32} {I' : am_I} {L' : am_L} (m : Nat) : ∀ (a1 : Int32) (a2 : Int32) (I : am_I) (L : am_L) (hf : fX11_even_b16 n d m a1 a2 I L = some (r, I', L')), am_J x (fun S => S = (some (.int r), (KC al), (RC al), I', L')) 16 [some (.ref 0), some (.int a1), some (.int a2)] [] (KC al) (RC al) I L 0 0 := by
  induction m with
  | zero => intro a1 a2 I L hf; exact (Option.some_ne_none _ hf.symm).elim
  | succ m ih => intro a1 a2 I L hf; exact tX11_even_b16w n d hc (fX11_even_b16 n d m) ih a1 a2 I L hf

set_option maxRecDepth 100000 in
def fX11_even (n d : Nat) (I : am_I) (L : am_L) : Option (Int32 × am_I × am_L) :=
  if (I 3 0) = 0 then
    (some ((-1 : Int32), I, L))
    else
    (am_lt (0 : Int32) (fun v1 => am_lt (0 : Int32) (fun v2 => fX11_even_b16 n d n v1 v2 I L)))

set_option maxRecDepth 100000 in
set_option maxHeartbeats 4000000 in
theorem tX11_even {x : am_X} {al : Bool} (n d : Nat) (hc : am_ok x cX11_even yX11_even 3 (some .int) (d + 1) 0 0) {r : Int32} {I' : am_I} {L' : am_L} (I : am_I) (L : am_L) (hf : fX11_even n d I L = some (r, I', L')) : am_J x (fun S => S = (some (.int r), (KC al), (RC al), I', L')) 0 [some (.ref 0), none, none] [] (KC al) (RC al) I L 0 0 := by
  unfold fX11_even at hf
  refine j_aload_n hc dX11_even_0 rfl ?_
  refine j_getR (u := 3) hc dX11_even_1 (fgC_X11_19_0 _) (rC_0_1 _) ?_
  refine j_getI hc dX11_even_4 (fgC_X11_151_3 _) ?_
  refine j_if_ne (tgt := 12) hc dX11_even_7 rfl hf (fun hf => ?_) (fun hf => ?_)
  · refine j_iconst (v := (0 : Int32)) hc dX11_even_12 ci_0 ?_
    refine j_istore_n hc dX11_even_13 (Nat.le_of_ble_eq_true rfl) hf (fun v1 hf => ?_)
    refine j_iconst (v := (0 : Int32)) hc dX11_even_14 ci_0 ?_
    refine j_istore_n hc dX11_even_15 (Nat.le_of_ble_eq_true rfl) hf (fun v2 hf => ?_)
    exact j_sub (tX11_even_b16 n d hc n _ _ _ _ hf) (And.intro rfl (And.intro rfl (And.intro rfl (trivial))))
  · refine j_iconst (v := (-1 : Int32)) hc dX11_even_10 ci_m1 ?_
    exact j_ireturn hc dX11_even_11 rfl rfl hf

set_option maxRecDepth 100000 in
theorem qX11_even (l : Launch) {al : Bool} (n d : Nat) (I : am_I) (L : am_L) (r : Int32) (I' : am_I) (L' : am_L) (hf : fX11_even n d I L = some (r, I', L')) : am_C l yX11_even cX11_even 3 (some .int) (d + 1) [.ref 0] (KC al) (RC al) I L (some (.int r)) I' L' := by
  exact am_intro (plainFor_of_name plX11) (fun _ _ => trivial) (Nat.le_of_ble_eq_true rfl) (fun x hl hc => by subst hl; exact j_sub (tX11_even n d hc  _ _ hf) (And.intro rfl (trivial)))
set_option maxRecDepth 100000 in
def fX11_sure (n d : Nat) (a1 : Int32) (I : am_I) (L : am_L) : Option (Int32 × am_I × am_L) :=
  am_b3 (fX4_isSize n d a1 I L) (fun v1 I1 L1 => if v1 = 0 then
    (some ((-1 : Int32), I1, L1))
    else
    (am_b3 (fX4_tally n d a1 I1 L1) (fun v2 I2 L2 => if v2 = 0 then
      (some ((-1 : Int32), I2, L2))
      else
      (some ((I2 60 4), I2, L2)))))

set_option maxRecDepth 100000 in
set_option maxHeartbeats 4000000 in
theorem tX11_sure {x : am_X} {al : Bool} (n d : Nat) (hc : am_ok x cX11_sure yX11_sure 2 (some .int) (d + 4) 0 0) {r : Int32} {I' : am_I} {L' : am_L} (a1 : Int32) (I : am_I) (L : am_L) (hf : fX11_sure n d a1 I L = some (r, I', L')) : am_J x (fun S => S = (some (.int r), (KC al), (RC al), I', L')) 0 [some (.ref 0), some (.int a1)] [] (KC al) (RC al) I L 0 0 := by
  unfold fX11_sure at hf
  refine j_iload_n hc dX11_sure_0 rfl ?_
  refine j_callSI (As := [.int a1]) hc dX11_sure_1 kw_1321 mX4_isSize  rfl (by omega) (Nat.le_of_ble_eq_true rfl) (Nat.le_of_ble_eq_true rfl) ⟨Nat.le_refl _, Nat.le_refl _⟩ hf (fun v I' L' h => qX4_isSize x.2.1 n d a1 I L v I' L' h) (fun v1 I1 L1 hf => ?_)
  refine j_if_ne (tgt := 9) hc dX11_sure_4 rfl hf (fun hf => ?_) (fun hf => ?_)
  · refine j_aload_n hc dX11_sure_9 rfl ?_
    refine j_getR (u := 60) hc dX11_sure_10 (fgC_X11_93_0 _) (rC_0_11 _) ?_
    refine j_iload_n hc dX11_sure_13 rfl ?_
    refine j_callVI (t := 60) (As := [.int a1]) hc dX11_sure_14 kw_1349 mX4_tally (kC_60 _) clX4 rfl (by omega) (Nat.le_of_ble_eq_true rfl) (Nat.le_of_ble_eq_true rfl) ⟨Nat.le_refl _, Nat.le_refl _⟩ hf (fun v I' L' h => qX4_tally x.2.1 n d a1 I1 L1 v I' L' h) (fun v2 I2 L2 hf => ?_)
    refine j_if_ne (tgt := 24) hc dX11_sure_17 rfl hf (fun hf => ?_) (fun hf => ?_)
    · refine j_aload_n hc dX11_sure_24 rfl ?_
      refine j_getR (u := 60) hc dX11_sure_25 (fgC_X11_93_0 _) (rC_0_11 _) ?_
      refine j_getI hc dX11_sure_28 (fgC_X11_444_60 _) ?_
      exact j_ireturn hc dX11_sure_31 rfl rfl hf
    · refine j_iconst (v := (-1 : Int32)) hc dX11_sure_20 ci_m1 ?_
      refine j_goto (tgt := 31) hc dX11_sure_21 rfl ?_
      exact j_ireturn hc dX11_sure_31 rfl rfl hf
  · refine j_iconst (v := (-1 : Int32)) hc dX11_sure_7 ci_m1 ?_
    exact j_ireturn hc dX11_sure_8 rfl rfl hf

set_option maxRecDepth 100000 in
theorem qX11_sure (l : Launch) {al : Bool} (n d : Nat) (a1 : Int32) (I : am_I) (L : am_L) (r : Int32) (I' : am_I) (L' : am_L) (hf : fX11_sure n d a1 I L = some (r, I', L')) : am_C l yX11_sure cX11_sure 2 (some .int) (d + 4) [.ref 0, .int a1] (KC al) (RC al) I L (some (.int r)) I' L' := by
  exact am_intro (plainFor_of_name plX11) (fun _ _ => trivial) (Nat.le_of_ble_eq_true rfl) (fun x hl hc => by subst hl; exact j_sub (tX11_sure n d hc _ _ _ hf) (And.intro rfl (And.intro rfl (trivial))))
set_option maxRecDepth 100000 in
def fX11_weary_b54 (n d : Nat) (k4 : Int32 → Int32 → am_I → am_L → Option (Int32 × am_I × am_L)) (a1 : Int32) (a2 : Int32) (I : am_I) (L : am_L) : Option (Int32 × am_I × am_L) :=
  am_lt (a2 + (1 : Int32)) (fun v1 => k4 a1 v1 I L)

set_option maxRecDepth 100000 in
set_option maxHeartbeats 4000000 in
theorem tX11_weary_b54 {x : am_X} {al : Bool} (n d : Nat) (hc : am_ok x cX11_weary yX11_weary 3 (some .int) (d + 2) 0 0) {r : Int32} {I' : am_I} {L' : am_L} (k4 : Int32 → Int32 → am_I → am_L → Option (Int32 × am_I × am_L)) (hk4 : ∀ (a1 : Int32) (a2 : Int32) (I : am_I) (L : am_L), k4 a1 a2 I L = some (r, I', L') → am_J x (fun S => S = (some (.int r), (KC al), (RC al), I', L')) 4 [some (.ref 0), some (.int a1), some (.int a2)] [] (KC al) (RC al) I L 0 0) (a1 : Int32) (a2 : Int32) (I : am_I) (L : am_L) (hf : fX11_weary_b54 n d k4 a1 a2 I L = some (r, I', L')) : am_J x (fun S => S = (some (.int r), (KC al), (RC al), I', L')) 54 [some (.ref 0), some (.int a1), some (.int a2)] [] (KC al) (RC al) I L 0 0 := by
  unfold fX11_weary_b54 at hf
  refine j_iinc (w := (1 : Int32)) hc dX11_weary_54 rfl ci_1 (Nat.le_of_ble_eq_true rfl) hf (fun v1 hf => ?_)
  refine j_goto (tgt := 4) hc dX11_weary_57 rfl ?_
  exact j_sub (hk4 _ _ _ _ hf) (And.intro rfl (And.intro rfl (And.intro rfl (trivial))))

set_option maxRecDepth 100000 in
def fX11_weary_b52 (n d : Nat) (k4 : Int32 → Int32 → am_I → am_L → Option (Int32 × am_I × am_L)) (a2 : Int32) (I : am_I) (L : am_L) : Option (Int32 × am_I × am_L) :=
  am_lt a2 (fun v1 => fX11_weary_b54 n d k4 v1 a2 I L)

set_option maxRecDepth 100000 in
set_option maxHeartbeats 4000000 in
theorem tX11_weary_b52 {x : am_X} {al : Bool} (n d : Nat) (hc : am_ok x cX11_weary yX11_weary 3 (some .int) (d + 2) 0 0) {r : Int32} {I' : am_I} {L' : am_L} (k4 : Int32 → Int32 → am_I → am_L → Option (Int32 × am_I × am_L)) (hk4 : ∀ (a1 : Int32) (a2 : Int32) (I : am_I) (L : am_L), k4 a1 a2 I L = some (r, I', L') → am_J x (fun S => S = (some (.int r), (KC al), (RC al), I', L')) 4 [some (.ref 0), some (.int a1), some (.int a2)] [] (KC al) (RC al) I L 0 0) (a2 : Int32) (I : am_I) (L : am_L) (hf : fX11_weary_b52 n d k4 a2 I L = some (r, I', L')) : am_J x (fun S => S = (some (.int r), (KC al), (RC al), I', L')) 52 [some (.ref 0), none, some (.int a2)] [] (KC al) (RC al) I L 0 0 := by
  unfold fX11_weary_b52 at hf
  refine j_iload_n hc dX11_weary_52 rfl ?_
  refine j_istore_n hc dX11_weary_53 (Nat.le_of_ble_eq_true rfl) hf (fun v1 hf => ?_)
  exact j_sub (tX11_weary_b54 n d hc k4 hk4 _ _ _ _ hf) (And.intro rfl (And.intro rfl (And.intro rfl (trivial))))

set_option maxRecDepth 100000 in
def fX11_weary_b4w (n d : Nat) (k4 : Int32 → Int32 → am_I → am_L → Option (Int32 × am_I × am_L)) (a1 : Int32) (a2 : Int32) (I : am_I) (L : am_L) : Option (Int32 × am_I × am_L) :=
  if (I 3 0) ≤ a2 then
    (some (a1, I, L))
    else
    (am_b3 (fX7_isHome n d a2 I L) (fun v1 I1 L1 => if v1 = 0 then
      (if a1 = (-1 : Int32) then
        (fX11_weary_b52 n d k4 a2 I1 L1)
        else
        (am_ck a2 8 (am_lt (I1 8 (a2).toNatClampNeg) (fun v2 => am_ck a1 8 (am_lt (I1 8 (a1).toNatClampNeg) (fun v3 => if v2 ≤ v3 then
          (fX11_weary_b54 n d k4 a1 a2 I1 L1)
          else
          (fX11_weary_b52 n d k4 a2 I1 L1)))))))
      else
      (fX11_weary_b54 n d k4 a1 a2 I1 L1)))

set_option maxRecDepth 100000 in
set_option maxHeartbeats 4000000 in
theorem tX11_weary_b4w {x : am_X} {al : Bool} (n d : Nat) (hc : am_ok x cX11_weary yX11_weary 3 (some .int) (d + 2) 0 0) {r : Int32} {I' : am_I} {L' : am_L} (k4 : Int32 → Int32 → am_I → am_L → Option (Int32 × am_I × am_L)) (hk4 : ∀ (a1 : Int32) (a2 : Int32) (I : am_I) (L : am_L), k4 a1 a2 I L = some (r, I', L') → am_J x (fun S => S = (some (.int r), (KC al), (RC al), I', L')) 4 [some (.ref 0), some (.int a1), some (.int a2)] [] (KC al) (RC al) I L 0 0) (a1 : Int32) (a2 : Int32) (I : am_I) (L : am_L) (hf : fX11_weary_b4w n d k4 a1 a2 I L = some (r, I', L')) : am_J x (fun S => S = (some (.int r), (KC al), (RC al), I', L')) 4 [some (.ref 0), some (.int a1), some (.int a2)] [] (KC al) (RC al) I L 0 0 := by
  unfold fX11_weary_b4w at hf
  refine j_iload_n hc dX11_weary_4 rfl ?_
  refine j_aload_n hc dX11_weary_5 rfl ?_
  refine j_getR (u := 3) hc dX11_weary_6 (fgC_X11_19_0 _) (rC_0_1 _) ?_
  refine j_getI hc dX11_weary_9 (fgC_X11_151_3 _) ?_
  refine j_icmp_ge (tgt := 60) hc dX11_weary_12 rfl hf (fun hf => ?_) (fun hf => ?_)
  · refine j_iload_n hc dX11_weary_60 rfl ?_
    exact j_ireturn hc dX11_weary_61 rfl rfl hf
  · refine j_aload_n hc dX11_weary_15 rfl ?_
    refine j_getR (u := 39) hc dX11_weary_16 (fgC_X11_56_0 _) (rC_0_6 _) ?_
    refine j_iload_n hc dX11_weary_19 rfl ?_
    refine j_callVI (t := 39) (As := [.int a2]) hc dX11_weary_20 kw_994 mX7_isHome (kC_39 _) clX7 rfl (by omega) (Nat.le_of_ble_eq_true rfl) (Nat.le_of_ble_eq_true rfl) ⟨Nat.le_refl _, Nat.le_refl _⟩ hf (fun v I' L' h => qX7_isHome x.2.1 n d a2 I L v I' L' h) (fun v1 I1 L1 hf => ?_)
    refine j_if_ne (tgt := 54) hc dX11_weary_23 rfl hf (fun hf => ?_) (fun hf => ?_)
    · exact j_sub (tX11_weary_b54 n d hc k4 hk4 _ _ _ _ hf) (And.intro rfl (And.intro rfl (And.intro rfl (trivial))))
    · refine j_iload_n hc dX11_weary_26 rfl ?_
      refine j_iconst (v := (-1 : Int32)) hc dX11_weary_27 ci_m1 ?_
      refine j_icmp_eq (tgt := 52) hc dX11_weary_28 rfl hf (fun hf => ?_) (fun hf => ?_)
      · exact j_sub (tX11_weary_b52 n d hc k4 hk4 _ _ _ hf) (And.intro rfl (And.intro rfl (trivial)))
      · refine j_aload_n hc dX11_weary_31 rfl ?_
        refine j_getR (u := 3) hc dX11_weary_32 (fgC_X11_19_0 _) (rC_0_1 _) ?_
        refine j_getR (u := 8) hc dX11_weary_35 (fgC_X11_177_3 _) (rC_3_9 _) ?_
        refine j_iload_n hc dX11_weary_38 rfl ?_
        refine j_iaload (n := 8) hc dX11_weary_39 (kC_8 _) hf (fun v2 hf => ?_)
        refine j_aload_n hc dX11_weary_40 rfl ?_
        refine j_getR (u := 3) hc dX11_weary_41 (fgC_X11_19_0 _) (rC_0_1 _) ?_
        refine j_getR (u := 8) hc dX11_weary_44 (fgC_X11_177_3 _) (rC_3_9 _) ?_
        refine j_iload_n hc dX11_weary_47 rfl ?_
        refine j_iaload (n := 8) hc dX11_weary_48 (kC_8 _) hf (fun v3 hf => ?_)
        refine j_icmp_le (tgt := 54) hc dX11_weary_49 rfl hf (fun hf => ?_) (fun hf => ?_)
        · exact j_sub (tX11_weary_b54 n d hc k4 hk4 _ _ _ _ hf) (And.intro rfl (And.intro rfl (And.intro rfl (trivial))))
        · exact j_sub (tX11_weary_b52 n d hc k4 hk4 _ _ _ hf) (And.intro rfl (And.intro rfl (trivial)))

def fX11_weary_b4 (n d : Nat) : Nat → Int32 → Int32 → am_I → am_L → Option (Int32 × am_I × am_L)
  | 0 => fun _ _ _ _ => none
  | m + 1 => fX11_weary_b4w n d  (fX11_weary_b4 n d m)

set_option maxRecDepth 100000 in
theorem tX11_weary_b4 {x : am_X} {al : Bool} (n d : Nat) (hc : am_ok x cX11_weary yX11_weary 3 (some .int) (d + 2) 0 0) {r : Int32} {I' : am_I} {L' : am_L} (m : Nat) : ∀ (a1 : Int32) (a2 : Int32) (I : am_I) (L : am_L) (hf : fX11_weary_b4 n d m a1 a2 I L = some (r, I', L')), am_J x (fun S => S = (some (.int r), (KC al), (RC al), I', L')) 4 [some (.ref 0), some (.int a1), some (.int a2)] [] (KC al) (RC al) I L 0 0 := by
  induction m with
  | zero => intro a1 a2 I L hf; exact (Option.some_ne_none _ hf.symm).elim
  | succ m ih => intro a1 a2 I L hf; exact tX11_weary_b4w n d hc (fX11_weary_b4 n d m) ih a1 a2 I L hf

set_option maxRecDepth 100000 in
def fX11_weary (n d : Nat) (I : am_I) (L : am_L) : Option (Int32 × am_I × am_L) :=
  am_lt (-1 : Int32) (fun v1 => am_lt (0 : Int32) (fun v2 => fX11_weary_b4 n d n v1 v2 I L))

set_option maxRecDepth 100000 in
set_option maxHeartbeats 4000000 in
theorem tX11_weary {x : am_X} {al : Bool} (n d : Nat) (hc : am_ok x cX11_weary yX11_weary 3 (some .int) (d + 2) 0 0) {r : Int32} {I' : am_I} {L' : am_L} (I : am_I) (L : am_L) (hf : fX11_weary n d I L = some (r, I', L')) : am_J x (fun S => S = (some (.int r), (KC al), (RC al), I', L')) 0 [some (.ref 0), none, none] [] (KC al) (RC al) I L 0 0 := by
  unfold fX11_weary at hf
  refine j_iconst (v := (-1 : Int32)) hc dX11_weary_0 ci_m1 ?_
  refine j_istore_n hc dX11_weary_1 (Nat.le_of_ble_eq_true rfl) hf (fun v1 hf => ?_)
  refine j_iconst (v := (0 : Int32)) hc dX11_weary_2 ci_0 ?_
  refine j_istore_n hc dX11_weary_3 (Nat.le_of_ble_eq_true rfl) hf (fun v2 hf => ?_)
  exact j_sub (tX11_weary_b4 n d hc n _ _ _ _ hf) (And.intro rfl (And.intro rfl (And.intro rfl (trivial))))

set_option maxRecDepth 100000 in
theorem qX11_weary (l : Launch) {al : Bool} (n d : Nat) (I : am_I) (L : am_L) (r : Int32) (I' : am_I) (L' : am_L) (hf : fX11_weary n d I L = some (r, I', L')) : am_C l yX11_weary cX11_weary 3 (some .int) (d + 2) [.ref 0] (KC al) (RC al) I L (some (.int r)) I' L' := by
  exact am_intro (plainFor_of_name plX11) (fun _ _ => trivial) (Nat.le_of_ble_eq_true rfl) (fun x hl hc => by subst hl; exact j_sub (tX11_weary n d hc  _ _ hf) (And.intro rfl (trivial)))
set_option maxRecDepth 100000 in
def fX11_ahead_b55 (n d : Nat) (k17 : Int32 → Int32 → Int32 → am_I → am_L → Option (Int32 × am_I × am_L)) (a1 : Int32) (a2 : Int32) (a3 : Int32) (I : am_I) (L : am_L) : Option (Int32 × am_I × am_L) :=
  am_lt (a3 + (1 : Int32)) (fun v1 => k17 a1 a2 v1 I L)

set_option maxRecDepth 100000 in
set_option maxHeartbeats 4000000 in
theorem tX11_ahead_b55 {x : am_X} {al : Bool} (n d : Nat) (hc : am_ok x cX11_ahead yX11_ahead 4 (some .int) (d + 2) 0 0) {r : Int32} {I' : am_I} {L' : am_L} (k17 : Int32 → Int32 → Int32 → am_I → am_L → Option (Int32 × am_I × am_L)) (hk17 : ∀ (a1 : Int32) (a2 : Int32) (a3 : Int32) (I : am_I) (L : am_L), k17 a1 a2 a3 I L = some (r, I', L') → am_J x (fun S => S = (some (.int r), (KC al), (RC al), I', L')) 17 [some (.ref 0), some (.int a1), some (.int a2), some (.int a3)] [] (KC al) (RC al) I L 0 0) (a1 : Int32) (a2 : Int32) (a3 : Int32) (I : am_I) (L : am_L) (hf : fX11_ahead_b55 n d k17 a1 a2 a3 I L = some (r, I', L')) : am_J x (fun S => S = (some (.int r), (KC al), (RC al), I', L')) 55 [some (.ref 0), some (.int a1), some (.int a2), some (.int a3)] [] (KC al) (RC al) I L 0 0 := by
  unfold fX11_ahead_b55 at hf
  refine j_iinc (w := (1 : Int32)) hc dX11_ahead_55 rfl ci_1 (Nat.le_of_ble_eq_true rfl) hf (fun v1 hf => ?_)
  refine j_goto (tgt := 17) hc dX11_ahead_58 rfl ?_
  exact j_sub (hk17 _ _ _ _ _ hf) (And.intro rfl (And.intro rfl (And.intro rfl (And.intro rfl (trivial)))))

set_option maxRecDepth 100000 in
def fX11_ahead_b17w (n d : Nat) (k17 : Int32 → Int32 → Int32 → am_I → am_L → Option (Int32 × am_I × am_L)) (a1 : Int32) (a2 : Int32) (a3 : Int32) (I : am_I) (L : am_L) : Option (Int32 × am_I × am_L) :=
  if (I 3 1) ≤ a3 then
    (some (a2, I, L))
    else
    (am_ck a3 6 (am_lt (I 10 (a3).toNatClampNeg) (fun v1 => am_ck a1 8 (am_lt (I 40 (a1).toNatClampNeg) (fun v2 => if v2 ≤ v1 then
      (fX11_ahead_b55 n d k17 a1 a2 a3 I L)
      else
      (am_lt (a2 ||| ((1 : Int32) <<< (a3 &&& 31))) (fun v3 => fX11_ahead_b55 n d k17 a1 v3 a3 I L)))))))

set_option maxRecDepth 100000 in
set_option maxHeartbeats 4000000 in
theorem tX11_ahead_b17w {x : am_X} {al : Bool} (n d : Nat) (hc : am_ok x cX11_ahead yX11_ahead 4 (some .int) (d + 2) 0 0) {r : Int32} {I' : am_I} {L' : am_L} (k17 : Int32 → Int32 → Int32 → am_I → am_L → Option (Int32 × am_I × am_L)) (hk17 : ∀ (a1 : Int32) (a2 : Int32) (a3 : Int32) (I : am_I) (L : am_L), k17 a1 a2 a3 I L = some (r, I', L') → am_J x (fun S => S = (some (.int r), (KC al), (RC al), I', L')) 17 [some (.ref 0), some (.int a1), some (.int a2), some (.int a3)] [] (KC al) (RC al) I L 0 0) (a1 : Int32) (a2 : Int32) (a3 : Int32) (I : am_I) (L : am_L) (hf : fX11_ahead_b17w n d k17 a1 a2 a3 I L = some (r, I', L')) : am_J x (fun S => S = (some (.int r), (KC al), (RC al), I', L')) 17 [some (.ref 0), some (.int a1), some (.int a2), some (.int a3)] [] (KC al) (RC al) I L 0 0 := by
  unfold fX11_ahead_b17w at hf
  refine j_iload_n hc dX11_ahead_17 rfl ?_
  refine j_aload_n hc dX11_ahead_18 rfl ?_
  refine j_getR (u := 3) hc dX11_ahead_19 (fgC_X11_19_0 _) (rC_0_1 _) ?_
  refine j_getI hc dX11_ahead_22 (fgC_X11_194_3 _) ?_
  refine j_icmp_ge (tgt := 61) hc dX11_ahead_25 rfl hf (fun hf => ?_) (fun hf => ?_)
  · refine j_iload_n hc dX11_ahead_61 rfl ?_
    exact j_ireturn hc dX11_ahead_62 rfl rfl hf
  · refine j_aload_n hc dX11_ahead_28 rfl ?_
    refine j_getR (u := 3) hc dX11_ahead_29 (fgC_X11_19_0 _) (rC_0_1 _) ?_
    refine j_getR (u := 10) hc dX11_ahead_32 (fgC_X11_197_3 _) (rC_3_11 _) ?_
    refine j_iload_n hc dX11_ahead_35 rfl ?_
    refine j_iaload (n := 6) hc dX11_ahead_36 (kC_10 _) hf (fun v1 hf => ?_)
    refine j_aload_n hc dX11_ahead_37 rfl ?_
    refine j_getR (u := 39) hc dX11_ahead_38 (fgC_X11_56_0 _) (rC_0_6 _) ?_
    refine j_getR (u := 40) hc dX11_ahead_41 (fgC_X11_168_39 _) (rC_39_2 _) ?_
    refine j_iload_n hc dX11_ahead_44 rfl ?_
    refine j_iaload (n := 8) hc dX11_ahead_45 (kC_40 _) hf (fun v2 hf => ?_)
    refine j_icmp_ge (tgt := 55) hc dX11_ahead_46 rfl hf (fun hf => ?_) (fun hf => ?_)
    · exact j_sub (tX11_ahead_b55 n d hc k17 hk17 _ _ _ _ _ hf) (And.intro rfl (And.intro rfl (And.intro rfl (And.intro rfl (trivial)))))
    · refine j_iload_n hc dX11_ahead_49 rfl ?_
      refine j_iconst (v := (1 : Int32)) hc dX11_ahead_50 ci_1 ?_
      refine j_iload_n hc dX11_ahead_51 rfl ?_
      refine j_ishl hc dX11_ahead_52 ?_
      refine j_ior hc dX11_ahead_53 ?_
      refine j_istore_n hc dX11_ahead_54 (Nat.le_of_ble_eq_true rfl) hf (fun v3 hf => ?_)
      exact j_sub (tX11_ahead_b55 n d hc k17 hk17 _ _ _ _ _ hf) (And.intro rfl (And.intro rfl (And.intro rfl (And.intro rfl (trivial)))))

def fX11_ahead_b17 (n d : Nat) : Nat → Int32 → Int32 → Int32 → am_I → am_L → Option (Int32 × am_I × am_L)
  | 0 => fun _ _ _ _ _ => none
  | m + 1 => fX11_ahead_b17w n d  (fX11_ahead_b17 n d m)

set_option maxRecDepth 100000 in
theorem tX11_ahead_b17 {x : am_X} {al : Bool} (n d : Nat) (hc : am_ok x cX11_ahead yX11_ahead 4 (some .int) (d + 2) 0 0) {r : Int32} {I' : am_I} {L' : am_L} (m : Nat) : ∀ (a1 : Int32) (a2 : Int32) (a3 : Int32) (I : am_I) (L : am_L) (hf : fX11_ahead_b17 n d m a1 a2 a3 I L = some (r, I', L')), am_J x (fun S => S = (some (.int r), (KC al), (RC al), I', L')) 17 [some (.ref 0), some (.int a1), some (.int a2), some (.int a3)] [] (KC al) (RC al) I L 0 0 := by
  induction m with
  | zero => intro a1 a2 a3 I L hf; exact (Option.some_ne_none _ hf.symm).elim
  | succ m ih => intro a1 a2 a3 I L hf; exact tX11_ahead_b17w n d hc (fX11_ahead_b17 n d m) ih a1 a2 a3 I L hf

set_option maxRecDepth 100000 in
def fX11_ahead (n d : Nat) (a1 : Int32) (I : am_I) (L : am_L) : Option (Int32 × am_I × am_L) :=
  am_b3 (fX9_hasMan_war n d a1 I L) (fun v1 I1 L1 => if v1 = 0 then
    (some ((-1 : Int32), I1, L1))
    else
    (am_lt (0 : Int32) (fun v2 => am_lt (0 : Int32) (fun v3 => fX11_ahead_b17 n d n a1 v2 v3 I1 L1))))

set_option maxRecDepth 100000 in
set_option maxHeartbeats 4000000 in
theorem tX11_ahead {x : am_X} {al : Bool} (n d : Nat) (hc : am_ok x cX11_ahead yX11_ahead 4 (some .int) (d + 2) 0 0) {r : Int32} {I' : am_I} {L' : am_L} (a1 : Int32) (I : am_I) (L : am_L) (hf : fX11_ahead n d a1 I L = some (r, I', L')) : am_J x (fun S => S = (some (.int r), (KC al), (RC al), I', L')) 0 [some (.ref 0), some (.int a1), none, none] [] (KC al) (RC al) I L 0 0 := by
  unfold fX11_ahead at hf
  refine j_aload_n hc dX11_ahead_0 rfl ?_
  refine j_getR (u := 3) hc dX11_ahead_1 (fgC_X11_19_0 _) (rC_0_1 _) ?_
  refine j_iload_n hc dX11_ahead_4 rfl ?_
  refine j_callVI (t := 3) (As := [.int a1]) hc dX11_ahead_5 kw_978 mX9_hasMan (kC_3 _) clX9 rfl (by omega) (Nat.le_of_ble_eq_true rfl) (Nat.le_of_ble_eq_true rfl) ⟨Nat.le_refl _, Nat.le_refl _⟩ hf (fun v I' L' h => qX9_hasMan_war x.2.1 n d a1 I L v I' L' h) (fun v1 I1 L1 hf => ?_)
  refine j_if_ne (tgt := 13) hc dX11_ahead_8 rfl hf (fun hf => ?_) (fun hf => ?_)
  · refine j_iconst (v := (0 : Int32)) hc dX11_ahead_13 ci_0 ?_
    refine j_istore_n hc dX11_ahead_14 (Nat.le_of_ble_eq_true rfl) hf (fun v2 hf => ?_)
    refine j_iconst (v := (0 : Int32)) hc dX11_ahead_15 ci_0 ?_
    refine j_istore_n hc dX11_ahead_16 (Nat.le_of_ble_eq_true rfl) hf (fun v3 hf => ?_)
    exact j_sub (tX11_ahead_b17 n d hc n _ _ _ _ _ hf) (And.intro rfl (And.intro rfl (And.intro rfl (And.intro rfl (trivial)))))
  · refine j_iconst (v := (-1 : Int32)) hc dX11_ahead_11 ci_m1 ?_
    exact j_ireturn hc dX11_ahead_12 rfl rfl hf

set_option maxRecDepth 100000 in
theorem qX11_ahead (l : Launch) {al : Bool} (n d : Nat) (a1 : Int32) (I : am_I) (L : am_L) (r : Int32) (I' : am_I) (L' : am_L) (hf : fX11_ahead n d a1 I L = some (r, I', L')) : am_C l yX11_ahead cX11_ahead 4 (some .int) (d + 2) [.ref 0, .int a1] (KC al) (RC al) I L (some (.int r)) I' L' := by
  exact am_intro (plainFor_of_name plX11) (fun _ _ => trivial) (Nat.le_of_ble_eq_true rfl) (fun x hl hc => by subst hl; exact j_sub (tX11_ahead n d hc _ _ _ hf) (And.intro rfl (And.intro rfl (trivial))))
