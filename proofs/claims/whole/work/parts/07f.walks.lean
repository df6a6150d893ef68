set_option maxRecDepth 100000 in
def fX12_letter (n d : Nat) (a1 : Int32) (a2 : Int32) (I : am_I) (L : am_L) : Option (Int32 × am_I × am_L) :=
  am_b3 (fX12_in n d a1 (0 : Int32) (20 : Int32) I L) (fun v1 I1 L1 => if v1 = 0 then
    (some ((-1 : Int32), I1, L1))
    else
    (am_b3 (fX12_in n d a2 (0 : Int32) (3 : Int32) I1 L1) (fun v2 I2 L2 => if v2 = 0 then
      (some ((-1 : Int32), I2, L2))
      else
      (if (I2 0 39) = (10 : Int32) then
        (some ((-1 : Int32), I2, L2))
        else
        (am_ck (I2 0 39) 10 (am_lt (am_up I2 21 ((I2 0 39)).toNatClampNeg a1) (fun I3 => am_ck (I3 0 39) 10 (am_lt (am_up I3 22 ((I3 0 39)).toNatClampNeg a2) (fun I4 => am_lt (am_up I4 0 39 ((I4 0 39) + (1 : Int32))) (fun I5 => some ((I5 0 39), I5, L2)))))))))))

set_option maxRecDepth 100000 in
set_option maxHeartbeats 4000000 in
theorem tX12_letter {x : am_X} (n d : Nat) (hc : am_ok x cX12_letter yX12_letter 3 (some .int) (d + 2) 0 0) {r : Int32} {I' : am_I} {L' : am_L} (a1 : Int32) (a2 : Int32) (I : am_I) (L : am_L) (hf : fX12_letter n d a1 a2 I L = some (r, I', L')) : am_J x (fun S => S = (some (.int r), KM, RM, I', L')) 0 [some (.ref 0), some (.int a1), some (.int a2)] [] KM RM I L 0 0 := by
  unfold fX12_letter at hf
  refine j_iload_n hc dX12_letter_0 rfl ?_
  refine j_iconst (v := (0 : Int32)) hc dX12_letter_1 ci_0 ?_
  refine j_bipush (v := (20 : Int32)) hc dX12_letter_2 cb_20 ?_
  refine j_callSI (As := [.int a1, .int (0 : Int32), .int (20 : Int32)]) hc dX12_letter_4 kw_1671 mX12_in  rfl (by omega) (Nat.le_of_ble_eq_true rfl) (Nat.le_of_ble_eq_true rfl) ⟨Nat.le_refl _, Nat.le_refl _⟩ hf (fun v I' L' h => qX12_in x.2.1 n d a1 (0 : Int32) (20 : Int32) I L v I' L' h) (fun v1 I1 L1 hf => ?_)
  refine j_if_eq (tgt := 28) hc dX12_letter_7 rfl hf (fun hf => ?_) (fun hf => ?_)
  · refine j_iconst (v := (-1 : Int32)) hc dX12_letter_28 ci_m1 ?_
    exact j_ireturn hc dX12_letter_29 rfl rfl hf
  · refine j_iload_n hc dX12_letter_10 rfl ?_
    refine j_iconst (v := (0 : Int32)) hc dX12_letter_11 ci_0 ?_
    refine j_iconst (v := (3 : Int32)) hc dX12_letter_12 ci_3 ?_
    refine j_callSI (As := [.int a2, .int (0 : Int32), .int (3 : Int32)]) hc dX12_letter_13 kw_1671 mX12_in  rfl (by omega) (Nat.le_of_ble_eq_true rfl) (Nat.le_of_ble_eq_true rfl) ⟨Nat.le_refl _, Nat.le_refl _⟩ hf (fun v I' L' h => qX12_in x.2.1 n d a2 (0 : Int32) (3 : Int32) I1 L1 v I' L' h) (fun v2 I2 L2 hf => ?_)
    refine j_if_eq (tgt := 28) hc dX12_letter_16 rfl hf (fun hf => ?_) (fun hf => ?_)
    · refine j_iconst (v := (-1 : Int32)) hc dX12_letter_28 ci_m1 ?_
      exact j_ireturn hc dX12_letter_29 rfl rfl hf
    · refine j_aload_n hc dX12_letter_19 rfl ?_
      refine j_getI hc dX12_letter_20 fgM_X12_259_0 ?_
      refine j_bipush (v := (10 : Int32)) hc dX12_letter_23 cb_10 ?_
      refine j_icmp_ne (tgt := 30) hc dX12_letter_25 rfl hf (fun hf => ?_) (fun hf => ?_)
      · refine j_aload_n hc dX12_letter_30 rfl ?_
        refine j_getR (u := 21) hc dX12_letter_31 fgM_X12_75_0 rM_0_37 ?_
        refine j_aload_n hc dX12_letter_34 rfl ?_
        refine j_getI hc dX12_letter_35 fgM_X12_259_0 ?_
        refine j_iload_n hc dX12_letter_38 rfl ?_
        refine j_iastore (n := 10) hc dX12_letter_39 kM_21 hf (fun I3 hf => ?_)
        refine j_aload_n hc dX12_letter_40 rfl ?_
        refine j_getR (u := 22) hc dX12_letter_41 fgM_X12_78_0 rM_0_38 ?_
        refine j_aload_n hc dX12_letter_44 rfl ?_
        refine j_getI hc dX12_letter_45 fgM_X12_259_0 ?_
        refine j_iload_n hc dX12_letter_48 rfl ?_
        refine j_iastore (n := 10) hc dX12_letter_49 kM_22 hf (fun I4 hf => ?_)
        refine j_aload_n hc dX12_letter_50 rfl ?_
        refine j_dup hc dX12_letter_51 rfl ?_
        refine j_getI hc dX12_letter_52 fgM_X12_259_0 ?_
        refine j_iconst (v := (1 : Int32)) hc dX12_letter_55 ci_1 ?_
        refine j_iadd hc dX12_letter_56 ?_
        refine j_putI hc dX12_letter_57 fpM_X12_259_0 rfl rfl hf (fun I5 hf => ?_)
        refine j_aload_n hc dX12_letter_60 rfl ?_
        refine j_getI hc dX12_letter_61 fgM_X12_259_0 ?_
        exact j_ireturn hc dX12_letter_64 rfl rfl hf
      · refine j_iconst (v := (-1 : Int32)) hc dX12_letter_28 ci_m1 ?_
        exact j_ireturn hc dX12_letter_29 rfl rfl hf

set_option maxRecDepth 100000 in
theorem qX12_letter (l : Launch) (n d : Nat) (a1 : Int32) (a2 : Int32) (I : am_I) (L : am_L) (r : Int32) (I' : am_I) (L' : am_L) (hf : fX12_letter n d a1 a2 I L = some (r, I', L')) : am_C l yX12_letter cX12_letter 3 (some .int) (d + 2) [.ref 0, .int a1, .int a2] KM RM I L (some (.int r)) I' L' := by
  exact am_intro (plainFor_of_name plX12) (fun _ _ => trivial) (Nat.le_of_ble_eq_true rfl) (fun x hl hc => by subst hl; exact j_sub (tX12_letter n d hc _ _ _ _ hf) (And.intro rfl (And.intro rfl (And.intro rfl (trivial)))))
set_option maxRecDepth 100000 in
def fX12_power_g (n d : Nat) (g : Nat → Int32 → Int32 → Int32 → Int32 → Int32 → am_I → am_L → Option (Int32 × am_I × am_L)) (a0 : Int32) (I : am_I) (L : am_L) : Option (Int32 × am_I × am_L) :=
  if a0 = 0 then
    (some ((1 : Int32), I, L))
    else
    (am_b3 (g 0 (a0 - (1 : Int32)) 0 0 0 0 I L) (fun v1 I1 L1 => some (((21 : Int32) * v1), I1, L1)))

set_option maxRecDepth 100000 in
set_option maxHeartbeats 4000000 in
theorem tX12_power_g {x : am_X} (n d : Nat) (g : Nat → Int32 → Int32 → Int32 → Int32 → Int32 → am_I → am_L → Option (Int32 × am_I × am_L)) (hg : ∀ (w : Nat) (e1 e2 e3 e4 e5 : Int32) (I : am_I) (L : am_L) (v : Int32) (I' : am_I) (L' : am_L), g w e1 e2 e3 e4 e5 I L = some (v, I', L') → (w = 0 → am_C x.2.1 yX12_power cX12_power 1 (some .int) (d + 1) [.int e1] KM RM I L (some (.int v)) I' L')) (hc : am_ok x cX12_power yX12_power 1 (some .int) (d + 2) 0 0) {r : Int32} {I' : am_I} {L' : am_L} (a0 : Int32) (I : am_I) (L : am_L) (hf : fX12_power_g n d g a0 I L = some (r, I', L')) : am_J x (fun S => S = (some (.int r), KM, RM, I', L')) 0 [some (.int a0)] [] KM RM I L 0 0 := by
  unfold fX12_power_g at hf
  refine j_iload_n hc dX12_power_0 rfl ?_
  refine j_if_ne (tgt := 8) hc dX12_power_1 rfl hf (fun hf => ?_) (fun hf => ?_)
  · refine j_bipush (v := (21 : Int32)) hc dX12_power_8 cb_21 ?_
    refine j_iload_n hc dX12_power_10 rfl ?_
    refine j_iconst (v := (1 : Int32)) hc dX12_power_11 ci_1 ?_
    refine j_isub hc dX12_power_12 ?_
    refine j_callSI (As := [.int (a0 - (1 : Int32))]) hc dX12_power_13 kw_2074 mX12_power  rfl (by omega) (Nat.le_of_ble_eq_true rfl) (Nat.le_of_ble_eq_true rfl) ⟨Nat.le_refl _, Nat.le_refl _⟩ hf (fun v I' L' h => (hg 0 _ _ _ _ _ _ _ _ _ _ h) rfl) (fun v1 I1 L1 hf => ?_)
    refine j_imul hc dX12_power_16 ?_
    exact j_ireturn hc dX12_power_17 rfl rfl hf
  · refine j_iconst (v := (1 : Int32)) hc dX12_power_4 ci_1 ?_
    refine j_goto (tgt := 17) hc dX12_power_5 rfl ?_
    exact j_ireturn hc dX12_power_17 rfl rfl hf

def gX12_power (n : Nat) : Nat → Nat → Int32 → Int32 → Int32 → Int32 → Int32 → am_I → am_L → Option (Int32 × am_I × am_L)
  | 0 => fun _ _ _ _ _ _ _ _ => none
  | d + 1 => fun w e1 e2 e3 e4 e5 I L => match w with
    | 0 => fX12_power_g n d (gX12_power n d) e1 I L
    | _ => none
set_option maxRecDepth 100000 in
set_option maxHeartbeats 4000000 in
theorem cgX12_power (l : Launch) (n d : Nat) : ∀ (w : Nat) (e1 e2 e3 e4 e5 : Int32) (I : am_I) (L : am_L) (v : Int32) (I' : am_I) (L' : am_L), gX12_power n d w e1 e2 e3 e4 e5 I L = some (v, I', L') → (w = 0 → am_C l yX12_power cX12_power 1 (some .int) (d + 1) [.int e1] KM RM I L (some (.int v)) I' L') := by
  induction d with
  | zero => intro w e1 e2 e3 e4 e5 I L v I' L' hf; exact (Option.some_ne_none _ hf.symm).elim
  | succ d ih =>
    intro w e1 e2 e3 e4 e5 I L v I' L' hf
    refine ?_
    exact fun hw => by
          subst hw
          exact am_intro (plainFor_of_name plX12) (fun _ _ => trivial) (Nat.le_of_ble_eq_true rfl) (fun x hl hc => by subst hl; exact j_sub (tX12_power_g n d (gX12_power n d) ih hc _ _ _ hf) (And.intro rfl (trivial)))
def fX12_power (n d : Nat) (a0 : Int32) (I : am_I) (L : am_L) : Option (Int32 × am_I × am_L) := gX12_power n d 0 a0 0 0 0 0 I L
theorem qX12_power (l : Launch) (n d : Nat) (a0 : Int32) (I : am_I) (L : am_L) (r : Int32) (I' : am_I) (L' : am_L) (hf : fX12_power n d a0 I L = some (r, I', L')) : am_C l yX12_power cX12_power 1 (some .int) (d + 1) [.int a0] KM RM I L (some (.int r)) I' L' := by
  exact (cgX12_power l n d _ _ _ _ _ _ _ _ _ _ _ hf) rfl
set_option maxRecDepth 100000 in
def fX12_within_b50 (n d : Nat) (k12 : Int32 → Int32 → Int32 → Int32 → Int32 → Int32 → am_I → am_L → Option (Int32 × am_I × am_L)) (s0 : Int32) (s1 : Int32) (a1 : Int32) (a2 : Int32) (a4 : Int32) (a5 : Int32) (a6 : Int32) (I : am_I) (L : am_L) : Option (Int32 × am_I × am_L) :=
  am_lt (s0 + s1) (fun v1 => (if (21 : Int32) = 0 then none else am_lt (a4 / (21 : Int32)) (fun v2 => am_lt (a6 + (1 : Int32)) (fun v3 => k12 a1 a2 v1 v2 a5 v3 I L))))

set_option maxRecDepth 100000 in
set_option maxHeartbeats 4000000 in
theorem tX12_within_b50 {x : am_X} (n d : Nat) (hc : am_ok x cX12_within yX12_within 8 (some .int) (d + 1) 0 0) {r : Int32} {I' : am_I} {L' : am_L} (k12 : Int32 → Int32 → Int32 → Int32 → Int32 → Int32 → am_I → am_L → Option (Int32 × am_I × am_L)) (hk12 : ∀ (a1 : Int32) (a2 : Int32) (a3 : Int32) (a4 : Int32) (a5 : Int32) (a6 : Int32) (I : am_I) (L : am_L), k12 a1 a2 a3 a4 a5 a6 I L = some (r, I', L') → am_J x (fun S => S = (some (.int r), KM, RM, I', L')) 12 [none, some (.int a1), some (.int a2), some (.int a3), some (.int a4), some (.int a5), some (.int a6), none] [] KM RM I L 0 0) (s0 : Int32) (s1 : Int32) (a1 : Int32) (a2 : Int32) (a4 : Int32) (a5 : Int32) (a6 : Int32) (I : am_I) (L : am_L) (hf : fX12_within_b50 n d k12 s0 s1 a1 a2 a4 a5 a6 I L = some (r, I', L')) : am_J x (fun S => S = (some (.int r), KM, RM, I', L')) 50 [none, some (.int a1), some (.int a2), none, some (.int a4), some (.int a5), some (.int a6), none] [.int s1, .int s0] KM RM I L 0 0 := by
  unfold fX12_within_b50 at hf
  refine j_iadd hc dX12_within_50 ?_
  refine j_istore_n hc dX12_within_51 (Nat.le_of_ble_eq_true rfl) hf (fun v1 hf => ?_)
  refine j_iload hc dX12_within_52 rfl ?_
  refine j_bipush (v := (21 : Int32)) hc dX12_within_54 cb_21 ?_
  refine j_idiv hc dX12_within_56 hf (fun hf => ?_)
  refine j_istore hc dX12_within_57 (Nat.le_of_ble_eq_true rfl) hf (fun v2 hf => ?_)
  refine j_iinc (w := (1 : Int32)) hc dX12_within_59 rfl ci_1 (Nat.le_of_ble_eq_true rfl) hf (fun v3 hf => ?_)
  refine j_goto (tgt := 12) hc dX12_within_62 rfl ?_
  exact j_sub (hk12 _ _ _ _ _ _ _ _ hf) (And.intro rfl (And.intro rfl (And.intro rfl (And.intro rfl (And.intro rfl (And.intro rfl (trivial)))))))

set_option maxRecDepth 100000 in
def fX12_within_b12w (n d : Nat) (k12 : Int32 → Int32 → Int32 → Int32 → Int32 → Int32 → am_I → am_L → Option (Int32 × am_I × am_L)) (a1 : Int32) (a2 : Int32) (a3 : Int32) (a4 : Int32) (a5 : Int32) (a6 : Int32) (I : am_I) (L : am_L) : Option (Int32 × am_I × am_L) :=
  if a1 ≤ a6 then
    (some (a3, I, L))
    else
    ((if (21 : Int32) = 0 then none else am_lt (a4 - a4 / (21 : Int32) * (21 : Int32)) (fun v1 => if v1 ≤ a5 then
      (am_lt v1 (fun v2 => if a2 < v1 then
        (fX12_within_b50 n d k12 a3 (0 : Int32) a1 a2 a4 v2 a6 I L)
        else
        (fX12_within_b50 n d k12 a3 (1 : Int32) a1 a2 a4 v2 a6 I L)))
      else
      (some ((-1 : Int32), I, L)))))

set_option maxRecDepth 100000 in
set_option maxHeartbeats 4000000 in
theorem tX12_within_b12w {x : am_X} (n d : Nat) (hc : am_ok x cX12_within yX12_within 8 (some .int) (d + 1) 0 0) {r : Int32} {I' : am_I} {L' : am_L} (k12 : Int32 → Int32 → Int32 → Int32 → Int32 → Int32 → am_I → am_L → Option (Int32 × am_I × am_L)) (hk12 : ∀ (a1 : Int32) (a2 : Int32) (a3 : Int32) (a4 : Int32) (a5 : Int32) (a6 : Int32) (I : am_I) (L : am_L), k12 a1 a2 a3 a4 a5 a6 I L = some (r, I', L') → am_J x (fun S => S = (some (.int r), KM, RM, I', L')) 12 [none, some (.int a1), some (.int a2), some (.int a3), some (.int a4), some (.int a5), some (.int a6), none] [] KM RM I L 0 0) (a1 : Int32) (a2 : Int32) (a3 : Int32) (a4 : Int32) (a5 : Int32) (a6 : Int32) (I : am_I) (L : am_L) (hf : fX12_within_b12w n d k12 a1 a2 a3 a4 a5 a6 I L = some (r, I', L')) : am_J x (fun S => S = (some (.int r), KM, RM, I', L')) 12 [none, some (.int a1), some (.int a2), some (.int a3), some (.int a4), some (.int a5), some (.int a6), none] [] KM RM I L 0 0 := by
  unfold fX12_within_b12w at hf
  refine j_iload hc dX12_within_12 rfl ?_
  refine j_iload_n hc dX12_within_14 rfl ?_
  refine j_icmp_ge (tgt := 65) hc dX12_within_15 rfl hf (fun hf => ?_) (fun hf => ?_)
  · refine j_iload_n hc dX12_within_65 rfl ?_
    exact j_ireturn hc dX12_within_66 rfl rfl hf
  · refine j_iload hc dX12_within_18 rfl ?_
    refine j_bipush (v := (21 : Int32)) hc dX12_within_20 cb_21 ?_
    refine j_irem hc dX12_within_22 hf (fun hf => ?_)
    refine j_istore hc dX12_within_23 (Nat.le_of_ble_eq_true rfl) hf (fun v1 hf => ?_)
    refine j_iload hc dX12_within_25 rfl ?_
    refine j_iload hc dX12_within_27 rfl ?_
    refine j_icmp_le (tgt := 34) hc dX12_within_29 rfl hf (fun hf => ?_) (fun hf => ?_)
    · refine j_iload hc dX12_within_34 rfl ?_
      refine j_istore hc dX12_within_36 (Nat.le_of_ble_eq_true rfl) hf (fun v2 hf => ?_)
      refine j_iload_n hc dX12_within_38 rfl ?_
      refine j_iload hc dX12_within_39 rfl ?_
      refine j_iload_n hc dX12_within_41 rfl ?_
      refine j_icmp_gt (tgt := 49) hc dX12_within_42 rfl hf (fun hf => ?_) (fun hf => ?_)
      · refine j_iconst (v := (0 : Int32)) hc dX12_within_49 ci_0 ?_
        exact j_sub (tX12_within_b50 n d hc k12 hk12 _ _ _ _ _ _ _ _ _ hf) (And.intro rfl (And.intro rfl (And.intro rfl (And.intro rfl (And.intro rfl (trivial))))))
      · refine j_iconst (v := (1 : Int32)) hc dX12_within_45 ci_1 ?_
        refine j_goto (tgt := 50) hc dX12_within_46 rfl ?_
        exact j_sub (tX12_within_b50 n d hc k12 hk12 _ _ _ _ _ _ _ _ _ hf) (And.intro rfl (And.intro rfl (And.intro rfl (And.intro rfl (And.intro rfl (trivial))))))
    · refine j_iconst (v := (-1 : Int32)) hc dX12_within_32 ci_m1 ?_
      exact j_ireturn hc dX12_within_33 rfl rfl hf

def fX12_within_b12 (n d : Nat) : Nat → Int32 → Int32 → Int32 → Int32 → Int32 → Int32 → am_I → am_L → Option (Int32 × am_I × am_L)
  | 0 => fun _ _ _ _ _ _ _ _ => none
  | m + 1 => fX12_within_b12w n d  (fX12_within_b12 n d m)

set_option maxRecDepth 100000 in
theorem tX12_within_b12 {x : am_X} (n d : Nat) (hc : am_ok x cX12_within yX12_within 8 (some .int) (d + 1) 0 0) {r : Int32} {I' : am_I} {L' : am_L} (m : Nat) : ∀ (a1 : Int32) (a2 : Int32) (a3 : Int32) (a4 : Int32) (a5 : Int32) (a6 : Int32) (I : am_I) (L : am_L) (hf : fX12_within_b12 n d m a1 a2 a3 a4 a5 a6 I L = some (r, I', L')), am_J x (fun S => S = (some (.int r), KM, RM, I', L')) 12 [none, some (.int a1), some (.int a2), some (.int a3), some (.int a4), some (.int a5), some (.int a6), none] [] KM RM I L 0 0 := by
  induction m with
  | zero => intro a1 a2 a3 a4 a5 a6 I L hf; exact (Option.some_ne_none _ hf.symm).elim
  | succ m ih => intro a1 a2 a3 a4 a5 a6 I L hf; exact tX12_within_b12w n d hc (fX12_within_b12 n d m) ih a1 a2 a3 a4 a5 a6 I L hf

set_option maxRecDepth 100000 in
def fX12_within (n d : Nat) (a0 : Int32) (a1 : Int32) (a2 : Int32) (I : am_I) (L : am_L) : Option (Int32 × am_I × am_L) :=
  am_lt (0 : Int32) (fun v1 => am_lt a0 (fun v2 => am_lt (20 : Int32) (fun v3 => am_lt (0 : Int32) (fun v4 => fX12_within_b12 n d n a1 a2 v1 v2 v3 v4 I L))))

set_option maxRecDepth 100000 in
set_option maxHeartbeats 4000000 in
theorem tX12_within {x : am_X} (n d : Nat) (hc : am_ok x cX12_within yX12_within 8 (some .int) (d + 1) 0 0) {r : Int32} {I' : am_I} {L' : am_L} (a0 : Int32) (a1 : Int32) (a2 : Int32) (I : am_I) (L : am_L) (hf : fX12_within n d a0 a1 a2 I L = some (r, I', L')) : am_J x (fun S => S = (some (.int r), KM, RM, I', L')) 0 [some (.int a0), some (.int a1), some (.int a2), none, none, none, none, none] [] KM RM I L 0 0 := by
  unfold fX12_within at hf
  refine j_iconst (v := (0 : Int32)) hc dX12_within_0 ci_0 ?_
  refine j_istore_n hc dX12_within_1 (Nat.le_of_ble_eq_true rfl) hf (fun v1 hf => ?_)
  refine j_iload_n hc dX12_within_2 rfl ?_
  refine j_istore hc dX12_within_3 (Nat.le_of_ble_eq_true rfl) hf (fun v2 hf => ?_)
  refine j_bipush (v := (20 : Int32)) hc dX12_within_5 cb_20 ?_
  refine j_istore hc dX12_within_7 (Nat.le_of_ble_eq_true rfl) hf (fun v3 hf => ?_)
  refine j_iconst (v := (0 : Int32)) hc dX12_within_9 ci_0 ?_
  refine j_istore hc dX12_within_10 (Nat.le_of_ble_eq_true rfl) hf (fun v4 hf => ?_)
  exact j_sub (tX12_within_b12 n d hc n _ _ _ _ _ _ _ _ hf) (And.intro rfl (And.intro rfl (And.intro rfl (And.intro rfl (And.intro rfl (And.intro rfl (trivial)))))))

set_option maxRecDepth 100000 in
theorem qX12_within (l : Launch) (n d : Nat) (a0 : Int32) (a1 : Int32) (a2 : Int32) (I : am_I) (L : am_L) (r : Int32) (I' : am_I) (L' : am_L) (hf : fX12_within n d a0 a1 a2 I L = some (r, I', L')) : am_C l yX12_within cX12_within 8 (some .int) (d + 1) [.int a0, .int a1, .int a2] KM RM I L (some (.int r)) I' L' := by
  exact am_intro (plainFor_of_name plX12) (fun _ _ => trivial) (Nat.le_of_ble_eq_true rfl) (fun x hl hc => by subst hl; exact j_sub (tX12_within n d hc _ _ _ _ _ hf) (And.intro rfl (And.intro rfl (And.intro rfl (trivial)))))
set_option maxRecDepth 100000 in
def fX12_isSoBy_b60 (n d : Nat) (k20 : Int32 → Int32 → Int32 → Int32 → am_I → am_L → Option (Int32 × am_I × am_L)) (s0 : Int32) (a1 : Int32) (a2 : Int32) (a4 : Int32) (I : am_I) (L : am_L) : Option (Int32 × am_I × am_L) :=
  am_lt s0 (fun v1 => am_lt (a4 + (1 : Int32)) (fun v2 => k20 a1 a2 v1 v2 I L))

set_option maxRecDepth 100000 in
set_option maxHeartbeats 4000000 in
theorem tX12_isSoBy_b60 {x : am_X} (n d : Nat) (hc : am_ok x cX12_isSoBy yX12_isSoBy 5 (some .boolean) (d + 2) 0 0) {r : Int32} {I' : am_I} {L' : am_L} (k20 : Int32 → Int32 → Int32 → Int32 → am_I → am_L → Option (Int32 × am_I × am_L)) (hk20 : ∀ (a1 : Int32) (a2 : Int32) (a3 : Int32) (a4 : Int32) (I : am_I) (L : am_L), k20 a1 a2 a3 a4 I L = some (r, I', L') → am_J x (fun S => S = (some (.int r), KM, RM, I', L')) 20 [some (.ref 0), some (.int a1), some (.int a2), some (.int a3), some (.int a4)] [] KM RM I L 0 0) (s0 : Int32) (a1 : Int32) (a2 : Int32) (a4 : Int32) (I : am_I) (L : am_L) (hf : fX12_isSoBy_b60 n d k20 s0 a1 a2 a4 I L = some (r, I', L')) : am_J x (fun S => S = (some (.int r), KM, RM, I', L')) 60 [some (.ref 0), some (.int a1), some (.int a2), none, some (.int a4)] [.int s0] KM RM I L 0 0 := by
  unfold fX12_isSoBy_b60 at hf
  refine j_istore_n hc dX12_isSoBy_60 (Nat.le_of_ble_eq_true rfl) hf (fun v1 hf => ?_)
  refine j_iinc (w := (1 : Int32)) hc dX12_isSoBy_61 rfl ci_1 (Nat.le_of_ble_eq_true rfl) hf (fun v2 hf => ?_)
  refine j_goto (tgt := 20) hc dX12_isSoBy_64 rfl ?_
  exact j_sub (hk20 _ _ _ _ _ _ hf) (And.intro rfl (And.intro rfl (And.intro rfl (And.intro rfl (And.intro rfl (trivial))))))

set_option maxRecDepth 100000 in
def fX12_isSoBy_b20w (n d : Nat) (k20 : Int32 → Int32 → Int32 → Int32 → am_I → am_L → Option (Int32 × am_I × am_L)) (a1 : Int32) (a2 : Int32) (a3 : Int32) (a4 : Int32) (I : am_I) (L : am_L) : Option (Int32 × am_I × am_L) :=
  if (I 0 39) ≤ a4 then
    (am_bl a3 (some (a3, I, L)))
    else
    (if a3 = 0 then
      (am_bl a3 (some (a3, I, L)))
      else
      (am_ck a4 10 (am_lt (I 21 (a4).toNatClampNeg) (fun v1 => am_b3 (fX12_within n d a1 a2 v1 I L) (fun v2 I2 L2 => am_ck a4 10 (am_lt (I2 22 (a4).toNatClampNeg) (fun v3 => if v2 = v3 then
        (fX12_isSoBy_b60 n d k20 (1 : Int32) a1 a2 a4 I2 L2)
        else
        (fX12_isSoBy_b60 n d k20 (0 : Int32) a1 a2 a4 I2 L2))))))))

set_option maxRecDepth 100000 in
set_option maxHeartbeats 4000000 in
theorem tX12_isSoBy_b20w {x : am_X} (n d : Nat) (hc : am_ok x cX12_isSoBy yX12_isSoBy 5 (some .boolean) (d + 2) 0 0) {r : Int32} {I' : am_I} {L' : am_L} (k20 : Int32 → Int32 → Int32 → Int32 → am_I → am_L → Option (Int32 × am_I × am_L)) (hk20 : ∀ (a1 : Int32) (a2 : Int32) (a3 : Int32) (a4 : Int32) (I : am_I) (L : am_L), k20 a1 a2 a3 a4 I L = some (r, I', L') → am_J x (fun S => S = (some (.int r), KM, RM, I', L')) 20 [some (.ref 0), some (.int a1), some (.int a2), some (.int a3), some (.int a4)] [] KM RM I L 0 0) (a1 : Int32) (a2 : Int32) (a3 : Int32) (a4 : Int32) (I : am_I) (L : am_L) (hf : fX12_isSoBy_b20w n d k20 a1 a2 a3 a4 I L = some (r, I', L')) : am_J x (fun S => S = (some (.int r), KM, RM, I', L')) 20 [some (.ref 0), some (.int a1), some (.int a2), some (.int a3), some (.int a4)] [] KM RM I L 0 0 := by
  unfold fX12_isSoBy_b20w at hf
  refine j_iload hc dX12_isSoBy_20 rfl ?_
  refine j_aload_n hc dX12_isSoBy_22 rfl ?_
  refine j_getI hc dX12_isSoBy_23 fgM_X12_259_0 ?_
  refine j_icmp_ge (tgt := 67) hc dX12_isSoBy_26 rfl hf (fun hf => ?_) (fun hf => ?_)
  · refine j_iload_n hc dX12_isSoBy_67 rfl ?_
    exact j_zreturn hc dX12_isSoBy_68 rfl rfl hf
  · refine j_iload_n hc dX12_isSoBy_29 rfl ?_
    refine j_if_eq (tgt := 67) hc dX12_isSoBy_30 rfl hf (fun hf => ?_) (fun hf => ?_)
    · refine j_iload_n hc dX12_isSoBy_67 rfl ?_
      exact j_zreturn hc dX12_isSoBy_68 rfl rfl hf
    · refine j_iload_n hc dX12_isSoBy_33 rfl ?_
      refine j_iload_n hc dX12_isSoBy_34 rfl ?_
      refine j_aload_n hc dX12_isSoBy_35 rfl ?_
      refine j_getR (u := 21) hc dX12_isSoBy_36 fgM_X12_75_0 rM_0_37 ?_
      refine j_iload hc dX12_isSoBy_39 rfl ?_
      refine j_iaload (n := 10) hc dX12_isSoBy_41 kM_21 hf (fun v1 hf => ?_)
      refine j_callSI (As := [.int a1, .int a2, .int v1]) hc dX12_isSoBy_42 kw_2081 mX12_within  rfl (by omega) (Nat.le_of_ble_eq_true rfl) (Nat.le_of_ble_eq_true rfl) ⟨Nat.le_refl _, Nat.le_refl _⟩ hf (fun v I' L' h => qX12_within x.2.1 n d a1 a2 v1 I L v I' L' h) (fun v2 I2 L2 hf => ?_)
      refine j_aload_n hc dX12_isSoBy_45 rfl ?_
      refine j_getR (u := 22) hc dX12_isSoBy_46 fgM_X12_78_0 rM_0_38 ?_
      refine j_iload hc dX12_isSoBy_49 rfl ?_
      refine j_iaload (n := 10) hc dX12_isSoBy_51 kM_22 hf (fun v3 hf => ?_)
      refine j_icmp_ne (tgt := 59) hc dX12_isSoBy_52 rfl hf (fun hf => ?_) (fun hf => ?_)
      · refine j_iconst (v := (0 : Int32)) hc dX12_isSoBy_59 ci_0 ?_
        exact j_sub (tX12_isSoBy_b60 n d hc k20 hk20 _ _ _ _ _ _ hf) (And.intro rfl (And.intro rfl (And.intro rfl (And.intro rfl (trivial)))))
      · refine j_iconst (v := (1 : Int32)) hc dX12_isSoBy_55 ci_1 ?_
        refine j_goto (tgt := 60) hc dX12_isSoBy_56 rfl ?_
        exact j_sub (tX12_isSoBy_b60 n d hc k20 hk20 _ _ _ _ _ _ hf) (And.intro rfl (And.intro rfl (And.intro rfl (And.intro rfl (trivial)))))

def fX12_isSoBy_b20 (n d : Nat) : Nat → Int32 → Int32 → Int32 → Int32 → am_I → am_L → Option (Int32 × am_I × am_L)
  | 0 => fun _ _ _ _ _ _ => none
  | m + 1 => fX12_isSoBy_b20w n d  (fX12_isSoBy_b20 n d m)

set_option maxRecDepth 100000 in
theorem tX12_isSoBy_b20 {x : am_X} (n d : Nat) (hc : am_ok x cX12_isSoBy yX12_isSoBy 5 (some .boolean) (d + 2) 0 0) {r : Int32} {I' : am_I} {L' : am_L} (m : Nat) : ∀ (a1 : Int32) (a2 : Int32) (a3 : Int32) (a4 : Int32) (I : am_I) (L : am_L) (hf : fX12_isSoBy_b20 n d m a1 a2 a3 a4 I L = some (r, I', L')), am_J x (fun S => S = (some (.int r), KM, RM, I', L')) 20 [some (.ref 0), some (.int a1), some (.int a2), some (.int a3), some (.int a4)] [] KM RM I L 0 0 := by
  induction m with
  | zero => intro a1 a2 a3 a4 I L hf; exact (Option.some_ne_none _ hf.symm).elim
  | succ m ih => intro a1 a2 a3 a4 I L hf; exact tX12_isSoBy_b20w n d hc (fX12_isSoBy_b20 n d m) ih a1 a2 a3 a4 I L hf

set_option maxRecDepth 100000 in
def fX12_isSoBy_b16 (n d : Nat) (s0 : Int32) (a1 : Int32) (a2 : Int32) (I : am_I) (L : am_L) : Option (Int32 × am_I × am_L) :=
  am_lt s0 (fun v1 => am_lt (0 : Int32) (fun v2 => fX12_isSoBy_b20 n d n a1 a2 v1 v2 I L))

set_option maxRecDepth 100000 in
set_option maxHeartbeats 4000000 in
theorem tX12_isSoBy_b16 {x : am_X} (n d : Nat) (hc : am_ok x cX12_isSoBy yX12_isSoBy 5 (some .boolean) (d + 2) 0 0) {r : Int32} {I' : am_I} {L' : am_L} (s0 : Int32) (a1 : Int32) (a2 : Int32) (I : am_I) (L : am_L) (hf : fX12_isSoBy_b16 n d s0 a1 a2 I L = some (r, I', L')) : am_J x (fun S => S = (some (.int r), KM, RM, I', L')) 16 [some (.ref 0), some (.int a1), some (.int a2), none, none] [.int s0] KM RM I L 0 0 := by
  unfold fX12_isSoBy_b16 at hf
  refine j_istore_n hc dX12_isSoBy_16 (Nat.le_of_ble_eq_true rfl) hf (fun v1 hf => ?_)
  refine j_iconst (v := (0 : Int32)) hc dX12_isSoBy_17 ci_0 ?_
  refine j_istore hc dX12_isSoBy_18 (Nat.le_of_ble_eq_true rfl) hf (fun v2 hf => ?_)
  exact j_sub (tX12_isSoBy_b20 n d hc n _ _ _ _ _ _ hf) (And.intro rfl (And.intro rfl (And.intro rfl (And.intro rfl (And.intro rfl (trivial))))))

set_option maxRecDepth 100000 in
def fX12_isSoBy (n d : Nat) (a1 : Int32) (a2 : Int32) (I : am_I) (L : am_L) : Option (Int32 × am_I × am_L) :=
  am_b3 (fX12_within n d a1 a2 (20 : Int32) I L) (fun v1 I1 L1 => if v1 = a2 then
    (fX12_isSoBy_b16 n d (1 : Int32) a1 a2 I1 L1)
    else
    (fX12_isSoBy_b16 n d (0 : Int32) a1 a2 I1 L1))

set_option maxRecDepth 100000 in
set_option maxHeartbeats 4000000 in
theorem tX12_isSoBy {x : am_X} (n d : Nat) (hc : am_ok x cX12_isSoBy yX12_isSoBy 5 (some .boolean) (d + 2) 0 0) {r : Int32} {I' : am_I} {L' : am_L} (a1 : Int32) (a2 : Int32) (I : am_I) (L : am_L) (hf : fX12_isSoBy n d a1 a2 I L = some (r, I', L')) : am_J x (fun S => S = (some (.int r), KM, RM, I', L')) 0 [some (.ref 0), some (.int a1), some (.int a2), none, none] [] KM RM I L 0 0 := by
  unfold fX12_isSoBy at hf
  refine j_iload_n hc dX12_isSoBy_0 rfl ?_
  refine j_iload_n hc dX12_isSoBy_1 rfl ?_
  refine j_bipush (v := (20 : Int32)) hc dX12_isSoBy_2 cb_20 ?_
  refine j_callSI (As := [.int a1, .int a2, .int (20 : Int32)]) hc dX12_isSoBy_4 kw_2081 mX12_within  rfl (by omega) (Nat.le_of_ble_eq_true rfl) (Nat.le_of_ble_eq_true rfl) ⟨Nat.le_refl _, Nat.le_refl _⟩ hf (fun v I' L' h => qX12_within x.2.1 n d a1 a2 (20 : Int32) I L v I' L' h) (fun v1 I1 L1 hf => ?_)
  refine j_iload_n hc dX12_isSoBy_7 rfl ?_
  refine j_icmp_ne (tgt := 15) hc dX12_isSoBy_8 rfl hf (fun hf => ?_) (fun hf => ?_)
  · refine j_iconst (v := (0 : Int32)) hc dX12_isSoBy_15 ci_0 ?_
    exact j_sub (tX12_isSoBy_b16 n d hc _ _ _ _ _ hf) (And.intro rfl (And.intro rfl (And.intro rfl (trivial))))
  · refine j_iconst (v := (1 : Int32)) hc dX12_isSoBy_11 ci_1 ?_
    refine j_goto (tgt := 16) hc dX12_isSoBy_12 rfl ?_
    exact j_sub (tX12_isSoBy_b16 n d hc _ _ _ _ _ hf) (And.intro rfl (And.intro rfl (And.intro rfl (trivial))))

set_option maxRecDepth 100000 in
theorem qX12_isSoBy (l : Launch) (n d : Nat) (a1 : Int32) (a2 : Int32) (I : am_I) (L : am_L) (r : Int32) (I' : am_I) (L' : am_L) (hf : fX12_isSoBy n d a1 a2 I L = some (r, I', L')) : am_C l yX12_isSoBy cX12_isSoBy 5 (some .boolean) (d + 2) [.ref 0, .int a1, .int a2] KM RM I L (some (.int r)) I' L' := by
  exact am_intro (plainFor_of_name plX12) (fun _ _ => trivial) (Nat.le_of_ble_eq_true rfl) (fun x hl hc => by subst hl; exact j_sub (tX12_isSoBy n d hc _ _ _ _ hf) (And.intro rfl (And.intro rfl (And.intro rfl (trivial)))))
set_option maxRecDepth 100000 in
def fX12_fit_b51 (n d : Nat) (k21 : Int32 → Int32 → Int32 → Int32 → am_I → am_L → Option (Int32 × am_I × am_L)) (a1 : Int32) (a2 : Int32) (a3 : Int32) (a4 : Int32) (I : am_I) (L : am_L) : Option (Int32 × am_I × am_L) :=
  am_lt (a4 + (1 : Int32)) (fun v1 => k21 a1 a2 a3 v1 I L)

set_option maxRecDepth 100000 in
set_option maxHeartbeats 4000000 in
theorem tX12_fit_b51 {x : am_X} (n d : Nat) (hc : am_ok x cX12_fit yX12_fit 5 (some .int) (d + 3) 0 0) {r : Int32} {I' : am_I} {L' : am_L} (k21 : Int32 → Int32 → Int32 → Int32 → am_I → am_L → Option (Int32 × am_I × am_L)) (hk21 : ∀ (a1 : Int32) (a2 : Int32) (a3 : Int32) (a4 : Int32) (I : am_I) (L : am_L), k21 a1 a2 a3 a4 I L = some (r, I', L') → am_J x (fun S => S = (some (.int r), KM, RM, I', L')) 21 [some (.ref 0), some (.int a1), some (.int a2), some (.int a3), some (.int a4)] [] KM RM I L 0 0) (a1 : Int32) (a2 : Int32) (a3 : Int32) (a4 : Int32) (I : am_I) (L : am_L) (hf : fX12_fit_b51 n d k21 a1 a2 a3 a4 I L = some (r, I', L')) : am_J x (fun S => S = (some (.int r), KM, RM, I', L')) 51 [some (.ref 0), some (.int a1), some (.int a2), some (.int a3), some (.int a4)] [] KM RM I L 0 0 := by
  unfold fX12_fit_b51 at hf
  refine j_iinc (w := (1 : Int32)) hc dX12_fit_51 rfl ci_1 (Nat.le_of_ble_eq_true rfl) hf (fun v1 hf => ?_)
  refine j_goto (tgt := 21) hc dX12_fit_54 rfl ?_
  exact j_sub (hk21 _ _ _ _ _ _ hf) (And.intro rfl (And.intro rfl (And.intro rfl (And.intro rfl (And.intro rfl (trivial))))))

set_option maxRecDepth 100000 in
def fX12_fit_b21w (n d : Nat) (k21 : Int32 → Int32 → Int32 → Int32 → am_I → am_L → Option (Int32 × am_I × am_L)) (a1 : Int32) (a2 : Int32) (a3 : Int32) (a4 : Int32) (I : am_I) (L : am_L) : Option (Int32 × am_I × am_L) :=
  am_b3 (fX12_power n d a1 I L) (fun v1 I1 L1 => if v1 ≤ a4 then
    (if a2 = (-1 : Int32) then
      (some (a3, I1, L1))
      else
      (some ((-1 : Int32), I1, L1)))
    else
    (am_b3 (fX12_isSoBy n d a4 a1 I1 L1) (fun v2 I2 L2 => if v2 = 0 then
      (fX12_fit_b51 n d k21 a1 a2 a3 a4 I2 L2)
      else
      (if a3 = a2 then
        (some (a4, I2, L2))
        else
        (am_lt (a3 + (1 : Int32)) (fun v3 => fX12_fit_b51 n d k21 a1 a2 v3 a4 I2 L2))))))

set_option maxRecDepth 100000 in
set_option maxHeartbeats 4000000 in
theorem tX12_fit_b21w {x : am_X} (n d : Nat) (hc : am_ok x cX12_fit yX12_fit 5 (some .int) (d + 3) 0 0) {r : Int32} {I' : am_I} {L' : am_L} (k21 : Int32 → Int32 → Int32 → Int32 → am_I → am_L → Option (Int32 × am_I × am_L)) (hk21 : ∀ (a1 : Int32) (a2 : Int32) (a3 : Int32) (a4 : Int32) (I : am_I) (L : am_L), k21 a1 a2 a3 a4 I L = some (r, I', L') → am_J x (fun S => S = (some (.int r), KM, RM, I', L')) 21 [some (.ref 0), some (.int a1), some (.int a2), some (.int a3), some (.int a4)] [] KM RM I L 0 0) (a1 : Int32) (a2 : Int32) (a3 : Int32) (a4 : Int32) (I : am_I) (L : am_L) (hf : fX12_fit_b21w n d k21 a1 a2 a3 a4 I L = some (r, I', L')) : am_J x (fun S => S = (some (.int r), KM, RM, I', L')) 21 [some (.ref 0), some (.int a1), some (.int a2), some (.int a3), some (.int a4)] [] KM RM I L 0 0 := by
  unfold fX12_fit_b21w at hf
  refine j_iload hc dX12_fit_21 rfl ?_
  refine j_iload_n hc dX12_fit_23 rfl ?_
  refine j_callSI (As := [.int a1]) hc dX12_fit_24 kw_2074 mX12_power  rfl (by omega) (Nat.le_of_ble_eq_true rfl) (Nat.le_of_ble_eq_true rfl) ⟨Nat.le_refl _, Nat.le_refl _⟩ hf (fun v I' L' h => qX12_power x.2.1 n d a1 I L v I' L' h) (fun v1 I1 L1 hf => ?_)
  refine j_icmp_ge (tgt := 57) hc dX12_fit_27 rfl hf (fun hf => ?_) (fun hf => ?_)
  · refine j_iload_n hc dX12_fit_57 rfl ?_
    refine j_iconst (v := (-1 : Int32)) hc dX12_fit_58 ci_m1 ?_
    refine j_icmp_ne (tgt := 66) hc dX12_fit_59 rfl hf (fun hf => ?_) (fun hf => ?_)
    · refine j_iconst (v := (-1 : Int32)) hc dX12_fit_66 ci_m1 ?_
      exact j_ireturn hc dX12_fit_67 rfl rfl hf
    · refine j_iload_n hc dX12_fit_62 rfl ?_
      refine j_goto (tgt := 67) hc dX12_fit_63 rfl ?_
      exact j_ireturn hc dX12_fit_67 rfl rfl hf
  · refine j_aload_n hc dX12_fit_30 rfl ?_
    refine j_iload hc dX12_fit_31 rfl ?_
    refine j_iload_n hc dX12_fit_33 rfl ?_
    refine j_callVI (t := 0) (As := [.int a4, .int a1]) hc dX12_fit_34 kw_2077 mX12_isSoBy kM_0 clX12 rfl (by omega) (Nat.le_of_ble_eq_true rfl) (Nat.le_of_ble_eq_true rfl) ⟨Nat.le_refl _, Nat.le_refl _⟩ hf (fun v I' L' h => qX12_isSoBy x.2.1 n d a4 a1 I1 L1 v I' L' h) (fun v2 I2 L2 hf => ?_)
    refine j_if_eq (tgt := 51) hc dX12_fit_37 rfl hf (fun hf => ?_) (fun hf => ?_)
    · exact j_sub (tX12_fit_b51 n d hc k21 hk21 _ _ _ _ _ _ hf) (And.intro rfl (And.intro rfl (And.intro rfl (And.intro rfl (And.intro rfl (trivial))))))
    · refine j_iload_n hc dX12_fit_40 rfl ?_
      refine j_iload_n hc dX12_fit_41 rfl ?_
      refine j_icmp_ne (tgt := 48) hc dX12_fit_42 rfl hf (fun hf => ?_) (fun hf => ?_)
      · refine j_iinc (w := (1 : Int32)) hc dX12_fit_48 rfl ci_1 (Nat.le_of_ble_eq_true rfl) hf (fun v3 hf => ?_)
        exact j_sub (tX12_fit_b51 n d hc k21 hk21 _ _ _ _ _ _ hf) (And.intro rfl (And.intro rfl (And.intro rfl (And.intro rfl (And.intro rfl (trivial))))))
      · refine j_iload hc dX12_fit_45 rfl ?_
        exact j_ireturn hc dX12_fit_47 rfl rfl hf

def fX12_fit_b21 (n d : Nat) : Nat → Int32 → Int32 → Int32 → Int32 → am_I → am_L → Option (Int32 × am_I × am_L)
  | 0 => fun _ _ _ _ _ _ => none
  | m + 1 => fX12_fit_b21w n d  (fX12_fit_b21 n d m)

set_option maxRecDepth 100000 in
theorem tX12_fit_b21 {x : am_X} (n d : Nat) (hc : am_ok x cX12_fit yX12_fit 5 (some .int) (d + 3) 0 0) {r : Int32} {I' : am_I} {L' : am_L} (m : Nat) : ∀ (a1 : Int32) (a2 : Int32) (a3 : Int32) (a4 : Int32) (I : am_I) (L : am_L) (hf : fX12_fit_b21 n d m a1 a2 a3 a4 I L = some (r, I', L')), am_J x (fun S => S = (some (.int r), KM, RM, I', L')) 21 [some (.ref 0), some (.int a1), some (.int a2), some (.int a3), some (.int a4)] [] KM RM I L 0 0 := by
  induction m with
  | zero => intro a1 a2 a3 a4 I L hf; exact (Option.some_ne_none _ hf.symm).elim
  | succ m ih => intro a1 a2 a3 a4 I L hf; exact tX12_fit_b21w n d hc (fX12_fit_b21 n d m) ih a1 a2 a3 a4 I L hf

set_option maxRecDepth 100000 in
def fX12_fit (n d : Nat) (a1 : Int32) (a2 : Int32) (I : am_I) (L : am_L) : Option (Int32 × am_I × am_L) :=
  am_b3 (fX12_in n d a1 (1 : Int32) (3 : Int32) I L) (fun v1 I1 L1 => if v1 = 0 then
    (some ((-1 : Int32), I1, L1))
    else
    (if (-1 : Int32) ≤ a2 then
      (am_lt (0 : Int32) (fun v2 => am_lt (0 : Int32) (fun v3 => fX12_fit_b21 n d n a1 a2 v2 v3 I1 L1)))
      else
      (some ((-1 : Int32), I1, L1))))

set_option maxRecDepth 100000 in
set_option maxHeartbeats 4000000 in
theorem tX12_fit {x : am_X} (n d : Nat) (hc : am_ok x cX12_fit yX12_fit 5 (some .int) (d + 3) 0 0) {r : Int32} {I' : am_I} {L' : am_L} (a1 : Int32) (a2 : Int32) (I : am_I) (L : am_L) (hf : fX12_fit n d a1 a2 I L = some (r, I', L')) : am_J x (fun S => S = (some (.int r), KM, RM, I', L')) 0 [some (.ref 0), some (.int a1), some (.int a2), none, none] [] KM RM I L 0 0 := by
  unfold fX12_fit at hf
  refine j_iload_n hc dX12_fit_0 rfl ?_
  refine j_iconst (v := (1 : Int32)) hc dX12_fit_1 ci_1 ?_
  refine j_iconst (v := (3 : Int32)) hc dX12_fit_2 ci_3 ?_
  refine j_callSI (As := [.int a1, .int (1 : Int32), .int (3 : Int32)]) hc dX12_fit_3 kw_1671 mX12_in  rfl (by omega) (Nat.le_of_ble_eq_true rfl) (Nat.le_of_ble_eq_true rfl) ⟨Nat.le_refl _, Nat.le_refl _⟩ hf (fun v I' L' h => qX12_in x.2.1 n d a1 (1 : Int32) (3 : Int32) I L v I' L' h) (fun v1 I1 L1 hf => ?_)
  refine j_if_eq (tgt := 14) hc dX12_fit_6 rfl hf (fun hf => ?_) (fun hf => ?_)
  · refine j_iconst (v := (-1 : Int32)) hc dX12_fit_14 ci_m1 ?_
    exact j_ireturn hc dX12_fit_15 rfl rfl hf
  · refine j_iload_n hc dX12_fit_9 rfl ?_
    refine j_iconst (v := (-1 : Int32)) hc dX12_fit_10 ci_m1 ?_
    refine j_icmp_ge (tgt := 16) hc dX12_fit_11 rfl hf (fun hf => ?_) (fun hf => ?_)
    · refine j_iconst (v := (0 : Int32)) hc dX12_fit_16 ci_0 ?_
      refine j_istore_n hc dX12_fit_17 (Nat.le_of_ble_eq_true rfl) hf (fun v2 hf => ?_)
      refine j_iconst (v := (0 : Int32)) hc dX12_fit_18 ci_0 ?_
      refine j_istore hc dX12_fit_19 (Nat.le_of_ble_eq_true rfl) hf (fun v3 hf => ?_)
      exact j_sub (tX12_fit_b21 n d hc n _ _ _ _ _ _ hf) (And.intro rfl (And.intro rfl (And.intro rfl (And.intro rfl (And.intro rfl (trivial))))))
    · refine j_iconst (v := (-1 : Int32)) hc dX12_fit_14 ci_m1 ?_
      exact j_ireturn hc dX12_fit_15 rfl rfl hf

set_option maxRecDepth 100000 in
theorem qX12_fit (l : Launch) (n d : Nat) (a1 : Int32) (a2 : Int32) (I : am_I) (L : am_L) (r : Int32) (I' : am_I) (L' : am_L) (hf : fX12_fit n d a1 a2 I L = some (r, I', L')) : am_C l yX12_fit cX12_fit 5 (some .int) (d + 3) [.ref 0, .int a1, .int a2] KM RM I L (some (.int r)) I' L' := by
  exact am_intro (plainFor_of_name plX12) (fun _ _ => trivial) (Nat.le_of_ble_eq_true rfl) (fun x hl hc => by subst hl; exact j_sub (tX12_fit n d hc _ _ _ _ hf) (And.intro rfl (And.intro rfl (And.intro rfl (trivial)))))
set_option maxRecDepth 100000 in
def fX12_ask_b184 (n d : Nat) (k121 : Int32 → Int32 → Int32 → Int32 → am_I → am_L → Option (Int32 × am_I × am_L)) (a2 : Int32) (a3 : Int32) (a4 : Int32) (a5 : Int32) (I : am_I) (L : am_L) : Option (Int32 × am_I × am_L) :=
  am_lt (a5 + (1 : Int32)) (fun v1 => k121 a2 a3 a4 v1 I L)

set_option maxRecDepth 100000 in
set_option maxHeartbeats 4000000 in
theorem tX12_ask_b184 {x : am_X} (n d : Nat) (hc : am_ok x cX12_ask yX12_ask 8 (some .int) (d + 4) 0 0) {r : Int32} {I' : am_I} {L' : am_L} (k121 : Int32 → Int32 → Int32 → Int32 → am_I → am_L → Option (Int32 × am_I × am_L)) (hk121 : ∀ (a2 : Int32) (a3 : Int32) (a4 : Int32) (a5 : Int32) (I : am_I) (L : am_L), k121 a2 a3 a4 a5 I L = some (r, I', L') → am_J x (fun S => S = (some (.int r), KM, RM, I', L')) 121 [some (.ref 0), none, some (.int a2), some (.int a3), some (.int a4), some (.int a5), none, none] [] KM RM I L 0 0) (a2 : Int32) (a3 : Int32) (a4 : Int32) (a5 : Int32) (I : am_I) (L : am_L) (hf : fX12_ask_b184 n d k121 a2 a3 a4 a5 I L = some (r, I', L')) : am_J x (fun S => S = (some (.int r), KM, RM, I', L')) 184 [some (.ref 0), none, some (.int a2), some (.int a3), some (.int a4), some (.int a5), none, none] [] KM RM I L 0 0 := by
  unfold fX12_ask_b184 at hf
  refine j_iinc (w := (1 : Int32)) hc dX12_ask_184 rfl ci_1 (Nat.le_of_ble_eq_true rfl) hf (fun v1 hf => ?_)
  refine j_goto (tgt := 121) hc dX12_ask_187 rfl ?_
  exact j_sub (hk121 _ _ _ _ _ _ hf) (And.intro rfl (And.intro rfl (And.intro rfl (And.intro rfl (And.intro rfl (trivial))))))

set_option maxRecDepth 100000 in
def fX12_ask_b177 (n d : Nat) (k121 : Int32 → Int32 → Int32 → Int32 → am_I → am_L → Option (Int32 × am_I × am_L)) (a2 : Int32) (a5 : Int32) (a6 : Int32) (I : am_I) (L : am_L) : Option (Int32 × am_I × am_L) :=
  am_lt a5 (fun v1 => am_lt a6 (fun v2 => fX12_ask_b184 n d k121 a2 v1 v2 a5 I L))

set_option maxRecDepth 100000 in
set_option maxHeartbeats 4000000 in
theorem tX12_ask_b177 {x : am_X} (n d : Nat) (hc : am_ok x cX12_ask yX12_ask 8 (some .int) (d + 4) 0 0) {r : Int32} {I' : am_I} {L' : am_L} (k121 : Int32 → Int32 → Int32 → Int32 → am_I → am_L → Option (Int32 × am_I × am_L)) (hk121 : ∀ (a2 : Int32) (a3 : Int32) (a4 : Int32) (a5 : Int32) (I : am_I) (L : am_L), k121 a2 a3 a4 a5 I L = some (r, I', L') → am_J x (fun S => S = (some (.int r), KM, RM, I', L')) 121 [some (.ref 0), none, some (.int a2), some (.int a3), some (.int a4), some (.int a5), none, none] [] KM RM I L 0 0) (a2 : Int32) (a5 : Int32) (a6 : Int32) (I : am_I) (L : am_L) (hf : fX12_ask_b177 n d k121 a2 a5 a6 I L = some (r, I', L')) : am_J x (fun S => S = (some (.int r), KM, RM, I', L')) 177 [some (.ref 0), none, some (.int a2), none, none, some (.int a5), some (.int a6), none] [] KM RM I L 0 0 := by
  unfold fX12_ask_b177 at hf
  refine j_iload hc dX12_ask_177 rfl ?_
  refine j_istore_n hc dX12_ask_179 (Nat.le_of_ble_eq_true rfl) hf (fun v1 hf => ?_)
  refine j_iload hc dX12_ask_180 rfl ?_
  refine j_istore hc dX12_ask_182 (Nat.le_of_ble_eq_true rfl) hf (fun v2 hf => ?_)
  exact j_sub (tX12_ask_b184 n d hc k121 hk121 _ _ _ _ _ _ hf) (And.intro rfl (And.intro rfl (And.intro rfl (And.intro rfl (And.intro rfl (trivial))))))

set_option maxRecDepth 100000 in
def fX12_ask_b134w (n d : Nat) (k121 : Int32 → Int32 → Int32 → Int32 → am_I → am_L → Option (Int32 × am_I × am_L)) (k134 : Int32 → Int32 → Int32 → Int32 → Int32 → Int32 → am_I → am_L → Option (Int32 × am_I × am_L)) (a2 : Int32) (a3 : Int32) (a4 : Int32) (a5 : Int32) (a6 : Int32) (a7 : Int32) (I : am_I) (L : am_L) : Option (Int32 × am_I × am_L) :=
  if (4 : Int32) ≤ a7 then
    (if a3 = (-1 : Int32) then
      (fX12_ask_b177 n d k121 a2 a5 a6 I L)
      else
      (if a4 ≤ a6 then
        (fX12_ask_b184 n d k121 a2 a3 a4 a5 I L)
        else
        (fX12_ask_b177 n d k121 a2 a5 a6 I L)))
    else
    (am_ck (((4 : Int32) * a5) + a7) 84 (am_lt (I 23 ((((4 : Int32) * a5) + a7)).toNatClampNeg) (fun v1 => am_b3 (fJ9_max_7cf53 n d a6 v1 I L) (fun v2 I2 L2 => am_lt v2 (fun v3 => am_lt (a7 + (1 : Int32)) (fun v4 => k134 a2 a3 a4 a5 v3 v4 I2 L2))))))

set_option maxRecDepth 100000 in
set_option maxHeartbeats 4000000 in
theorem tX12_ask_b134w {x : am_X} (n d : Nat) (hc : am_ok x cX12_ask yX12_ask 8 (some .int) (d + 4) 0 0) {r : Int32} {I' : am_I} {L' : am_L} (k121 : Int32 → Int32 → Int32 → Int32 → am_I → am_L → Option (Int32 × am_I × am_L)) (k134 : Int32 → Int32 → Int32 → Int32 → Int32 → Int32 → am_I → am_L → Option (Int32 × am_I × am_L)) (hk121 : ∀ (a2 : Int32) (a3 : Int32) (a4 : Int32) (a5 : Int32) (I : am_I) (L : am_L), k121 a2 a3 a4 a5 I L = some (r, I', L') → am_J x (fun S => S = (some (.int r), KM, RM, I', L')) 121 [some (.ref 0), none, some (.int a2), some (.int a3), some (.int a4), some (.int a5), none, none] [] KM RM I L 0 0) (hk134 : ∀ (a2 : Int32) (a3 : Int32) (a4 : Int32) (a5 : Int32) (a6 : Int32) (a7 : Int32) (I : am_I) (L : am_L), k134 a2 a3 a4 a5 a6 a7 I L = some (r, I', L') → am_J x (fun S => S = (some (.int r), KM, RM, I', L')) 134 [some (.ref 0), none, some (.int a2), some (.int a3), some (.int a4), some (.int a5), some (.int a6), some (.int a7)] [] KM RM I L 0 0) (a2 : Int32) (a3 : Int32) (a4 : Int32) (a5 : Int32) (a6 : Int32) (a7 : Int32) (I : am_I) (L : am_L) (hf : fX12_ask_b134w n d k121 k134 a2 a3 a4 a5 a6 a7 I L = some (r, I', L')) : am_J x (fun S => S = (some (.int r), KM, RM, I', L')) 134 [some (.ref 0), none, some (.int a2), some (.int a3), some (.int a4), some (.int a5), some (.int a6), some (.int a7)] [] KM RM I L 0 0 := by
  unfold fX12_ask_b134w at hf
  refine j_iload hc dX12_ask_134 rfl ?_
  refine j_iconst (v := (4 : Int32)) hc dX12_ask_136 ci_4 ?_
  refine j_icmp_ge (tgt := 165) hc dX12_ask_137 rfl hf (fun hf => ?_) (fun hf => ?_)
  · refine j_iload_n hc dX12_ask_165 rfl ?_
    refine j_iconst (v := (-1 : Int32)) hc dX12_ask_166 ci_m1 ?_
    refine j_icmp_eq (tgt := 177) hc dX12_ask_167 rfl hf (fun hf => ?_) (fun hf => ?_)
    · exact j_sub (tX12_ask_b177 n d hc k121 hk121 _ _ _ _ _ hf) (And.intro rfl (And.intro rfl (And.intro rfl (And.intro rfl (trivial)))))
    · refine j_iload hc dX12_ask_170 rfl ?_
      refine j_iload hc dX12_ask_172 rfl ?_
      refine j_icmp_ge (tgt := 184) hc dX12_ask_174 rfl hf (fun hf => ?_) (fun hf => ?_)
      · exact j_sub (tX12_ask_b184 n d hc k121 hk121 _ _ _ _ _ _ hf) (And.intro rfl (And.intro rfl (And.intro rfl (And.intro rfl (And.intro rfl (trivial))))))
      · exact j_sub (tX12_ask_b177 n d hc k121 hk121 _ _ _ _ _ hf) (And.intro rfl (And.intro rfl (And.intro rfl (And.intro rfl (trivial)))))
  · refine j_iload hc dX12_ask_140 rfl ?_
    refine j_aload_n hc dX12_ask_142 rfl ?_
    refine j_getR (u := 23) hc dX12_ask_143 fgM_X12_81_0 rM_0_40 ?_
    refine j_iconst (v := (4 : Int32)) hc dX12_ask_146 ci_4 ?_
    refine j_iload hc dX12_ask_147 rfl ?_
    refine j_imul hc dX12_ask_149 ?_
    refine j_iload hc dX12_ask_150 rfl ?_
    refine j_iadd hc dX12_ask_152 ?_
    refine j_iaload (n := 84) hc dX12_ask_153 kM_23 hf (fun v1 hf => ?_)
    refine j_callSI (As := [.int a6, .int v1]) hc dX12_ask_154 kw_1882 mJ9_max_7cf53  rfl (by omega) (Nat.le_of_ble_eq_true rfl) (Nat.le_of_ble_eq_true rfl) ⟨Nat.le_refl _, Nat.le_refl _⟩ hf (fun v I' L' h => qJ9_max_7cf53 x.2.1 n d a6 v1 I L v I' L' h) (fun v2 I2 L2 hf => ?_)
    refine j_istore hc dX12_ask_157 (Nat.le_of_ble_eq_true rfl) hf (fun v3 hf => ?_)
    refine j_iinc (w := (1 : Int32)) hc dX12_ask_159 rfl ci_1 (Nat.le_of_ble_eq_true rfl) hf (fun v4 hf => ?_)
    refine j_goto (tgt := 134) hc dX12_ask_162 rfl ?_
    exact j_sub (hk134 _ _ _ _ _ _ _ _ hf) (And.intro rfl (And.intro rfl (And.intro rfl (And.intro rfl (And.intro rfl (And.intro rfl (And.intro rfl (trivial))))))))

def fX12_ask_b134 (n d : Nat) (k121 : Int32 → Int32 → Int32 → Int32 → am_I → am_L → Option (Int32 × am_I × am_L)) : Nat → Int32 → Int32 → Int32 → Int32 → Int32 → Int32 → am_I → am_L → Option (Int32 × am_I × am_L)
  | 0 => fun _ _ _ _ _ _ _ _ => none
  | m + 1 => fX12_ask_b134w n d  k121 (fX12_ask_b134 n d k121 m)

set_option maxRecDepth 100000 in
theorem tX12_ask_b134 {x : am_X} (n d : Nat) (hc : am_ok x cX12_ask yX12_ask 8 (some .int) (d + 4) 0 0) {r : Int32} {I' : am_I} {L' : am_L} (k121 : Int32 → Int32 → Int32 → Int32 → am_I → am_L → Option (Int32 × am_I × am_L)) (hk121 : ∀ (a2 : Int32) (a3 : Int32) (a4 : Int32) (a5 : Int32) (I : am_I) (L : am_L), k121 a2 a3 a4 a5 I L = some (r, I', L') → am_J x (fun S => S = (some (.int r), KM, RM, I', L')) 121 [some (.ref 0), none, some (.int a2), some (.int a3), some (.int a4), some (.int a5), none, none] [] KM RM I L 0 0) (m : Nat) : ∀ (a2 : Int32) (a3 : Int32) (a4 : Int32) (a5 : Int32) (a6 : Int32) (a7 : Int32) (I : am_I) (L : am_L) (hf : fX12_ask_b134 n d k121 m a2 a3 a4 a5 a6 a7 I L = some (r, I', L')), am_J x (fun S => S = (some (.int r), KM, RM, I', L')) 134 [some (.ref 0), none, some (.int a2), some (.int a3), some (.int a4), some (.int a5), some (.int a6), some (.int a7)] [] KM RM I L 0 0 := by
  induction m with
  | zero => intro a2 a3 a4 a5 a6 a7 I L hf; exact (Option.some_ne_none _ hf.symm).elim
  | succ m ih => intro a2 a3 a4 a5 a6 a7 I L hf; exact tX12_ask_b134w n d hc k121 (fX12_ask_b134 n d k121 m) hk121 ih a2 a3 a4 a5 a6 a7 I L hf

set_option maxRecDepth 100000 in
def fX12_ask_b121w (n d : Nat) (k121 : Int32 → Int32 → Int32 → Int32 → am_I → am_L → Option (Int32 × am_I × am_L)) (a2 : Int32) (a3 : Int32) (a4 : Int32) (a5 : Int32) (I : am_I) (L : am_L) : Option (Int32 × am_I × am_L) :=
  if (21 : Int32) ≤ a5 then
    (if a2 = 0 then
      (some (a3, I, L))
      else
      (some (a4, I, L)))
    else
    (am_lt (0 : Int32) (fun v1 => am_lt (0 : Int32) (fun v2 => fX12_ask_b134 n d k121 n a2 a3 a4 a5 v1 v2 I L)))

set_option maxRecDepth 100000 in
set_option maxHeartbeats 4000000 in
theorem tX12_ask_b121w {x : am_X} (n d : Nat) (hc : am_ok x cX12_ask yX12_ask 8 (some .int) (d + 4) 0 0) {r : Int32} {I' : am_I} {L' : am_L} (k121 : Int32 → Int32 → Int32 → Int32 → am_I → am_L → Option (Int32 × am_I × am_L)) (hk121 : ∀ (a2 : Int32) (a3 : Int32) (a4 : Int32) (a5 : Int32) (I : am_I) (L : am_L), k121 a2 a3 a4 a5 I L = some (r, I', L') → am_J x (fun S => S = (some (.int r), KM, RM, I', L')) 121 [some (.ref 0), none, some (.int a2), some (.int a3), some (.int a4), some (.int a5), none, none] [] KM RM I L 0 0) (a2 : Int32) (a3 : Int32) (a4 : Int32) (a5 : Int32) (I : am_I) (L : am_L) (hf : fX12_ask_b121w n d k121 a2 a3 a4 a5 I L = some (r, I', L')) : am_J x (fun S => S = (some (.int r), KM, RM, I', L')) 121 [some (.ref 0), none, some (.int a2), some (.int a3), some (.int a4), some (.int a5), none, none] [] KM RM I L 0 0 := by
  unfold fX12_ask_b121w at hf
  refine j_iload hc dX12_ask_121 rfl ?_
  refine j_bipush (v := (21 : Int32)) hc dX12_ask_123 cb_21 ?_
  refine j_icmp_ge (tgt := 190) hc dX12_ask_125 rfl hf (fun hf => ?_) (fun hf => ?_)
  · refine j_iload_n hc dX12_ask_190 rfl ?_
    refine j_if_ne (tgt := 198) hc dX12_ask_191 rfl hf (fun hf => ?_) (fun hf => ?_)
    · refine j_iload hc dX12_ask_198 rfl ?_
      exact j_ireturn hc dX12_ask_200 rfl rfl hf
    · refine j_iload_n hc dX12_ask_194 rfl ?_
      refine j_goto (tgt := 200) hc dX12_ask_195 rfl ?_
      exact j_ireturn hc dX12_ask_200 rfl rfl hf
  · refine j_iconst (v := (0 : Int32)) hc dX12_ask_128 ci_0 ?_
    refine j_istore hc dX12_ask_129 (Nat.le_of_ble_eq_true rfl) hf (fun v1 hf => ?_)
    refine j_iconst (v := (0 : Int32)) hc dX12_ask_131 ci_0 ?_
    refine j_istore hc dX12_ask_132 (Nat.le_of_ble_eq_true rfl) hf (fun v2 hf => ?_)
    exact j_sub (tX12_ask_b134 n d hc k121 hk121 n _ _ _ _ _ _ _ _ hf) (And.intro rfl (And.intro rfl (And.intro rfl (And.intro rfl (And.intro rfl (And.intro rfl (And.intro rfl (trivial))))))))

def fX12_ask_b121 (n d : Nat) : Nat → Int32 → Int32 → Int32 → Int32 → am_I → am_L → Option (Int32 × am_I × am_L)
  | 0 => fun _ _ _ _ _ _ => none
  | m + 1 => fX12_ask_b121w n d  (fX12_ask_b121 n d m)

set_option maxRecDepth 100000 in
theorem tX12_ask_b121 {x : am_X} (n d : Nat) (hc : am_ok x cX12_ask yX12_ask 8 (some .int) (d + 4) 0 0) {r : Int32} {I' : am_I} {L' : am_L} (m : Nat) : ∀ (a2 : Int32) (a3 : Int32) (a4 : Int32) (a5 : Int32) (I : am_I) (L : am_L) (hf : fX12_ask_b121 n d m a2 a3 a4 a5 I L = some (r, I', L')), am_J x (fun S => S = (some (.int r), KM, RM, I', L')) 121 [some (.ref 0), none, some (.int a2), some (.int a3), some (.int a4), some (.int a5), none, none] [] KM RM I L 0 0 := by
  induction m with
  | zero => intro a2 a3 a4 a5 I L hf; exact (Option.some_ne_none _ hf.symm).elim
  | succ m ih => intro a2 a3 a4 a5 I L hf; exact tX12_ask_b121w n d hc (fX12_ask_b121 n d m) ih a2 a3 a4 a5 I L hf

set_option maxRecDepth 100000 in
def fX12_ask_b107 (n d : Nat) (k53 : Int32 → Int32 → Int32 → am_I → am_L → Option (Int32 × am_I × am_L)) (a1 : Int32) (a2 : Int32) (a3 : Int32) (I : am_I) (L : am_L) : Option (Int32 × am_I × am_L) :=
  am_lt (a3 + (1 : Int32)) (fun v1 => k53 a1 a2 v1 I L)

set_option maxRecDepth 100000 in
set_option maxHeartbeats 4000000 in
theorem tX12_ask_b107 {x : am_X} (n d : Nat) (hc : am_ok x cX12_ask yX12_ask 8 (some .int) (d + 4) 0 0) {r : Int32} {I' : am_I} {L' : am_L} (k53 : Int32 → Int32 → Int32 → am_I → am_L → Option (Int32 × am_I × am_L)) (hk53 : ∀ (a1 : Int32) (a2 : Int32) (a3 : Int32) (I : am_I) (L : am_L), k53 a1 a2 a3 I L = some (r, I', L') → am_J x (fun S => S = (some (.int r), KM, RM, I', L')) 53 [some (.ref 0), some (.int a1), some (.int a2), some (.int a3), none, none, none, none] [] KM RM I L 0 0) (a1 : Int32) (a2 : Int32) (a3 : Int32) (I : am_I) (L : am_L) (hf : fX12_ask_b107 n d k53 a1 a2 a3 I L = some (r, I', L')) : am_J x (fun S => S = (some (.int r), KM, RM, I', L')) 107 [some (.ref 0), some (.int a1), some (.int a2), some (.int a3), none, none, none, none] [] KM RM I L 0 0 := by
  unfold fX12_ask_b107 at hf
  refine j_iinc (w := (1 : Int32)) hc dX12_ask_107 rfl ci_1 (Nat.le_of_ble_eq_true rfl) hf (fun v1 hf => ?_)
  refine j_goto (tgt := 53) hc dX12_ask_110 rfl ?_
  exact j_sub (hk53 _ _ _ _ _ hf) (And.intro rfl (And.intro rfl (And.intro rfl (And.intro rfl (trivial)))))

set_option maxRecDepth 100000 in
def fX12_ask_b64w (n d : Nat) (k53 : Int32 → Int32 → Int32 → am_I → am_L → Option (Int32 × am_I × am_L)) (k64 : Int32 → Int32 → Int32 → Int32 → am_I → am_L → Option (Int32 × am_I × am_L)) (a1 : Int32) (a2 : Int32) (a3 : Int32) (a4 : Int32) (I : am_I) (L : am_L) : Option (Int32 × am_I × am_L) :=
  am_b3 (fX12_isSoBy n d a3 a1 I L) (fun v1 I1 L1 => if v1 = 0 then
    (fX12_ask_b107 n d k53 a1 a2 a3 I1 L1)
    else
    (if (21 : Int32) ≤ a4 then
      (fX12_ask_b107 n d k53 a1 a2 a3 I1 L1)
      else
      (am_b3 (fX12_within n d a3 a1 a4 I1 L1) (fun v2 I2 L2 => am_ck (((4 : Int32) * a4) + v2) 84 (am_lt (I2 23 ((((4 : Int32) * a4) + v2)).toNatClampNeg) (fun v3 => am_ck (((4 : Int32) * a4) + v2) 84 (am_lt (am_up I2 23 ((((4 : Int32) * a4) + v2)).toNatClampNeg (v3 + (1 : Int32))) (fun I4 => am_lt (a4 + (1 : Int32)) (fun v5 => k64 a1 a2 a3 v5 I4 L2)))))))))

set_option maxRecDepth 100000 in
set_option maxHeartbeats 4000000 in
theorem tX12_ask_b64w {x : am_X} (n d : Nat) (hc : am_ok x cX12_ask yX12_ask 8 (some .int) (d + 4) 0 0) {r : Int32} {I' : am_I} {L' : am_L} (k53 : Int32 → Int32 → Int32 → am_I → am_L → Option (Int32 × am_I × am_L)) (k64 : Int32 → Int32 → Int32 → Int32 → am_I → am_L → Option (Int32 × am_I × am_L)) (hk53 : ∀ (a1 : Int32) (a2 : Int32) (a3 : Int32) (I : am_I) (L : am_L), k53 a1 a2 a3 I L = some (r, I', L') → am_J x (fun S => S = (some (.int r), KM, RM, I', L')) 53 [some (.ref 0), some (.int a1), some (.int a2), some (.int a3), none, none, none, none] [] KM RM I L 0 0) (hk64 : ∀ (a1 : Int32) (a2 : Int32) (a3 : Int32) (a4 : Int32) (I : am_I) (L : am_L), k64 a1 a2 a3 a4 I L = some (r, I', L') → am_J x (fun S => S = (some (.int r), KM, RM, I', L')) 64 [some (.ref 0), some (.int a1), some (.int a2), some (.int a3), some (.int a4), none, none, none] [] KM RM I L 0 0) (a1 : Int32) (a2 : Int32) (a3 : Int32) (a4 : Int32) (I : am_I) (L : am_L) (hf : fX12_ask_b64w n d k53 k64 a1 a2 a3 a4 I L = some (r, I', L')) : am_J x (fun S => S = (some (.int r), KM, RM, I', L')) 64 [some (.ref 0), some (.int a1), some (.int a2), some (.int a3), some (.int a4), none, none, none] [] KM RM I L 0 0 := by
  unfold fX12_ask_b64w at hf
  refine j_aload_n hc dX12_ask_64 rfl ?_
  refine j_iload_n hc dX12_ask_65 rfl ?_
  refine j_iload_n hc dX12_ask_66 rfl ?_
  refine j_callVI (t := 0) (As := [.int a3, .int a1]) hc dX12_ask_67 kw_2077 mX12_isSoBy kM_0 clX12 rfl (by omega) (Nat.le_of_ble_eq_true rfl) (Nat.le_of_ble_eq_true rfl) ⟨Nat.le_refl _, Nat.le_refl _⟩ hf (fun v I' L' h => qX12_isSoBy x.2.1 n d a3 a1 I L v I' L' h) (fun v1 I1 L1 hf => ?_)
  refine j_if_eq (tgt := 107) hc dX12_ask_70 rfl hf (fun hf => ?_) (fun hf => ?_)
  · exact j_sub (tX12_ask_b107 n d hc k53 hk53 _ _ _ _ _ hf) (And.intro rfl (And.intro rfl (And.intro rfl (And.intro rfl (trivial)))))
  · refine j_iload hc dX12_ask_73 rfl ?_
    refine j_bipush (v := (21 : Int32)) hc dX12_ask_75 cb_21 ?_
    refine j_icmp_ge (tgt := 107) hc dX12_ask_77 rfl hf (fun hf => ?_) (fun hf => ?_)
    · exact j_sub (tX12_ask_b107 n d hc k53 hk53 _ _ _ _ _ hf) (And.intro rfl (And.intro rfl (And.intro rfl (And.intro rfl (trivial)))))
    · refine j_aload_n hc dX12_ask_80 rfl ?_
      refine j_getR (u := 23) hc dX12_ask_81 fgM_X12_81_0 rM_0_40 ?_
      refine j_iconst (v := (4 : Int32)) hc dX12_ask_84 ci_4 ?_
      refine j_iload hc dX12_ask_85 rfl ?_
      refine j_imul hc dX12_ask_87 ?_
      refine j_iload_n hc dX12_ask_88 rfl ?_
      refine j_iload_n hc dX12_ask_89 rfl ?_
      refine j_iload hc dX12_ask_90 rfl ?_
      refine j_callSI (As := [.int a3, .int a1, .int a4]) hc dX12_ask_92 kw_2081 mX12_within  rfl (by omega) (Nat.le_of_ble_eq_true rfl) (Nat.le_of_ble_eq_true rfl) ⟨Nat.le_refl _, Nat.le_refl _⟩ hf (fun v I' L' h => qX12_within x.2.1 n d a3 a1 a4 I1 L1 v I' L' h) (fun v2 I2 L2 hf => ?_)
      refine j_iadd hc dX12_ask_95 ?_
      refine j_dup2 hc dX12_ask_96 rfl rfl ?_
      refine j_iaload (n := 84) hc dX12_ask_97 kM_23 hf (fun v3 hf => ?_)
      refine j_iconst (v := (1 : Int32)) hc dX12_ask_98 ci_1 ?_
      refine j_iadd hc dX12_ask_99 ?_
      refine j_iastore (n := 84) hc dX12_ask_100 kM_23 hf (fun I4 hf => ?_)
      refine j_iinc (w := (1 : Int32)) hc dX12_ask_101 rfl ci_1 (Nat.le_of_ble_eq_true rfl) hf (fun v5 hf => ?_)
      refine j_goto (tgt := 64) hc dX12_ask_104 rfl ?_
      exact j_sub (hk64 _ _ _ _ _ _ hf) (And.intro rfl (And.intro rfl (And.intro rfl (And.intro rfl (And.intro rfl (trivial))))))

def fX12_ask_b64 (n d : Nat) (k53 : Int32 → Int32 → Int32 → am_I → am_L → Option (Int32 × am_I × am_L)) : Nat → Int32 → Int32 → Int32 → Int32 → am_I → am_L → Option (Int32 × am_I × am_L)
  | 0 => fun _ _ _ _ _ _ => none
  | m + 1 => fX12_ask_b64w n d  k53 (fX12_ask_b64 n d k53 m)

set_option maxRecDepth 100000 in
theorem tX12_ask_b64 {x : am_X} (n d : Nat) (hc : am_ok x cX12_ask yX12_ask 8 (some .int) (d + 4) 0 0) {r : Int32} {I' : am_I} {L' : am_L} (k53 : Int32 → Int32 → Int32 → am_I → am_L → Option (Int32 × am_I × am_L)) (hk53 : ∀ (a1 : Int32) (a2 : Int32) (a3 : Int32) (I : am_I) (L : am_L), k53 a1 a2 a3 I L = some (r, I', L') → am_J x (fun S => S = (some (.int r), KM, RM, I', L')) 53 [some (.ref 0), some (.int a1), some (.int a2), some (.int a3), none, none, none, none] [] KM RM I L 0 0) (m : Nat) : ∀ (a1 : Int32) (a2 : Int32) (a3 : Int32) (a4 : Int32) (I : am_I) (L : am_L) (hf : fX12_ask_b64 n d k53 m a1 a2 a3 a4 I L = some (r, I', L')), am_J x (fun S => S = (some (.int r), KM, RM, I', L')) 64 [some (.ref 0), some (.int a1), some (.int a2), some (.int a3), some (.int a4), none, none, none] [] KM RM I L 0 0 := by
  induction m with
  | zero => intro a1 a2 a3 a4 I L hf; exact (Option.some_ne_none _ hf.symm).elim
  | succ m ih => intro a1 a2 a3 a4 I L hf; exact tX12_ask_b64w n d hc k53 (fX12_ask_b64 n d k53 m) hk53 ih a1 a2 a3 a4 I L hf

set_option maxRecDepth 100000 in
def fX12_ask_b53w (n d : Nat) (k53 : Int32 → Int32 → Int32 → am_I → am_L → Option (Int32 × am_I × am_L)) (a1 : Int32) (a2 : Int32) (a3 : Int32) (I : am_I) (L : am_L) : Option (Int32 × am_I × am_L) :=
  am_b3 (fX12_power n d a1 I L) (fun v1 I1 L1 => if v1 ≤ a3 then
    (am_lt (-1 : Int32) (fun v2 => am_lt (0 : Int32) (fun v3 => am_lt (0 : Int32) (fun v4 => fX12_ask_b121 n d n a2 v2 v3 v4 I1 L1))))
    else
    (am_lt (0 : Int32) (fun v5 => fX12_ask_b64 n d k53 n a1 a2 a3 v5 I1 L1)))

set_option maxRecDepth 100000 in
set_option maxHeartbeats 4000000 in
theorem tX12_ask_b53w {x : am_X} (n d : Nat) (hc : am_ok x cX12_ask yX12_ask 8 (some .int) (d + 4) 0 0) {r : Int32} {I' : am_I} {L' : am_L} (k53 : Int32 → Int32 → Int32 → am_I → am_L → Option (Int32 × am_I × am_L)) (hk53 : ∀ (a1 : Int32) (a2 : Int32) (a3 : Int32) (I : am_I) (L : am_L), k53 a1 a2 a3 I L = some (r, I', L') → am_J x (fun S => S = (some (.int r), KM, RM, I', L')) 53 [some (.ref 0), some (.int a1), some (.int a2), some (.int a3), none, none, none, none] [] KM RM I L 0 0) (a1 : Int32) (a2 : Int32) (a3 : Int32) (I : am_I) (L : am_L) (hf : fX12_ask_b53w n d k53 a1 a2 a3 I L = some (r, I', L')) : am_J x (fun S => S = (some (.int r), KM, RM, I', L')) 53 [some (.ref 0), some (.int a1), some (.int a2), some (.int a3), none, none, none, none] [] KM RM I L 0 0 := by
  unfold fX12_ask_b53w at hf
  refine j_iload_n hc dX12_ask_53 rfl ?_
  refine j_iload_n hc dX12_ask_54 rfl ?_
  refine j_callSI (As := [.int a1]) hc dX12_ask_55 kw_2074 mX12_power  rfl (by omega) (Nat.le_of_ble_eq_true rfl) (Nat.le_of_ble_eq_true rfl) ⟨Nat.le_refl _, Nat.le_refl _⟩ hf (fun v I' L' h => qX12_power x.2.1 n d a1 I L v I' L' h) (fun v1 I1 L1 hf => ?_)
  refine j_icmp_ge (tgt := 113) hc dX12_ask_58 rfl hf (fun hf => ?_) (fun hf => ?_)
  · refine j_iconst (v := (-1 : Int32)) hc dX12_ask_113 ci_m1 ?_
    refine j_istore_n hc dX12_ask_114 (Nat.le_of_ble_eq_true rfl) hf (fun v2 hf => ?_)
    refine j_iconst (v := (0 : Int32)) hc dX12_ask_115 ci_0 ?_
    refine j_istore hc dX12_ask_116 (Nat.le_of_ble_eq_true rfl) hf (fun v3 hf => ?_)
    refine j_iconst (v := (0 : Int32)) hc dX12_ask_118 ci_0 ?_
    refine j_istore hc dX12_ask_119 (Nat.le_of_ble_eq_true rfl) hf (fun v4 hf => ?_)
    exact j_sub (tX12_ask_b121 n d hc n _ _ _ _ _ _ hf) (And.intro rfl (And.intro rfl (And.intro rfl (And.intro rfl (And.intro rfl (trivial))))))
  · refine j_iconst (v := (0 : Int32)) hc dX12_ask_61 ci_0 ?_
    refine j_istore hc dX12_ask_62 (Nat.le_of_ble_eq_true rfl) hf (fun v5 hf => ?_)
    exact j_sub (tX12_ask_b64 n d hc k53 hk53 n _ _ _ _ _ _ hf) (And.intro rfl (And.intro rfl (And.intro rfl (And.intro rfl (And.intro rfl (trivial))))))

def fX12_ask_b53 (n d : Nat) : Nat → Int32 → Int32 → Int32 → am_I → am_L → Option (Int32 × am_I × am_L)
  | 0 => fun _ _ _ _ _ => none
  | m + 1 => fX12_ask_b53w n d  (fX12_ask_b53 n d m)

set_option maxRecDepth 100000 in
theorem tX12_ask_b53 {x : am_X} (n d : Nat) (hc : am_ok x cX12_ask yX12_ask 8 (some .int) (d + 4) 0 0) {r : Int32} {I' : am_I} {L' : am_L} (m : Nat) : ∀ (a1 : Int32) (a2 : Int32) (a3 : Int32) (I : am_I) (L : am_L) (hf : fX12_ask_b53 n d m a1 a2 a3 I L = some (r, I', L')), am_J x (fun S => S = (some (.int r), KM, RM, I', L')) 53 [some (.ref 0), some (.int a1), some (.int a2), some (.int a3), none, none, none, none] [] KM RM I L 0 0 := by
  induction m with
  | zero => intro a1 a2 a3 I L hf; exact (Option.some_ne_none _ hf.symm).elim
  | succ m ih => intro a1 a2 a3 I L hf; exact tX12_ask_b53w n d hc (fX12_ask_b53 n d m) ih a1 a2 a3 I L hf

set_option maxRecDepth 100000 in
def fX12_ask_b32w (n d : Nat) (k32 : Int32 → Int32 → Int32 → am_I → am_L → Option (Int32 × am_I × am_L)) (a1 : Int32) (a2 : Int32) (a3 : Int32) (I : am_I) (L : am_L) : Option (Int32 × am_I × am_L) :=
  if (84 : Int32) ≤ a3 then
    (am_lt (0 : Int32) (fun v1 => fX12_ask_b53 n d n a1 a2 v1 I L))
    else
    (am_ck a3 84 (am_lt (am_up I 23 (a3).toNatClampNeg (0 : Int32)) (fun I2 => am_lt (a3 + (1 : Int32)) (fun v3 => k32 a1 a2 v3 I2 L))))

set_option maxRecDepth 100000 in
set_option maxHeartbeats 4000000 in
theorem tX12_ask_b32w {x : am_X} (n d : Nat) (hc : am_ok x cX12_ask yX12_ask 8 (some .int) (d + 4) 0 0) {r : Int32} {I' : am_I} {L' : am_L} (k32 : Int32 → Int32 → Int32 → am_I → am_L → Option (Int32 × am_I × am_L)) (hk32 : ∀ (a1 : Int32) (a2 : Int32) (a3 : Int32) (I : am_I) (L : am_L), k32 a1 a2 a3 I L = some (r, I', L') → am_J x (fun S => S = (some (.int r), KM, RM, I', L')) 32 [some (.ref 0), some (.int a1), some (.int a2), some (.int a3), none, none, none, none] [] KM RM I L 0 0) (a1 : Int32) (a2 : Int32) (a3 : Int32) (I : am_I) (L : am_L) (hf : fX12_ask_b32w n d k32 a1 a2 a3 I L = some (r, I', L')) : am_J x (fun S => S = (some (.int r), KM, RM, I', L')) 32 [some (.ref 0), some (.int a1), some (.int a2), some (.int a3), none, none, none, none] [] KM RM I L 0 0 := by
  unfold fX12_ask_b32w at hf
  refine j_iload_n hc dX12_ask_32 rfl ?_
  refine j_bipush (v := (84 : Int32)) hc dX12_ask_33 cb_84 ?_
  refine j_icmp_ge (tgt := 51) hc dX12_ask_35 rfl hf (fun hf => ?_) (fun hf => ?_)
  · refine j_iconst (v := (0 : Int32)) hc dX12_ask_51 ci_0 ?_
    refine j_istore_n hc dX12_ask_52 (Nat.le_of_ble_eq_true rfl) hf (fun v1 hf => ?_)
    exact j_sub (tX12_ask_b53 n d hc n _ _ _ _ _ hf) (And.intro rfl (And.intro rfl (And.intro rfl (And.intro rfl (trivial)))))
  · refine j_aload_n hc dX12_ask_38 rfl ?_
    refine j_getR (u := 23) hc dX12_ask_39 fgM_X12_81_0 rM_0_40 ?_
    refine j_iload_n hc dX12_ask_42 rfl ?_
    refine j_iconst (v := (0 : Int32)) hc dX12_ask_43 ci_0 ?_
    refine j_iastore (n := 84) hc dX12_ask_44 kM_23 hf (fun I2 hf => ?_)
    refine j_iinc (w := (1 : Int32)) hc dX12_ask_45 rfl ci_1 (Nat.le_of_ble_eq_true rfl) hf (fun v3 hf => ?_)
    refine j_goto (tgt := 32) hc dX12_ask_48 rfl ?_
    exact j_sub (hk32 _ _ _ _ _ hf) (And.intro rfl (And.intro rfl (And.intro rfl (And.intro rfl (trivial)))))

def fX12_ask_b32 (n d : Nat) : Nat → Int32 → Int32 → Int32 → am_I → am_L → Option (Int32 × am_I × am_L)
  | 0 => fun _ _ _ _ _ => none
  | m + 1 => fX12_ask_b32w n d  (fX12_ask_b32 n d m)

set_option maxRecDepth 100000 in
theorem tX12_ask_b32 {x : am_X} (n d : Nat) (hc : am_ok x cX12_ask yX12_ask 8 (some .int) (d + 4) 0 0) {r : Int32} {I' : am_I} {L' : am_L} (m : Nat) : ∀ (a1 : Int32) (a2 : Int32) (a3 : Int32) (I : am_I) (L : am_L) (hf : fX12_ask_b32 n d m a1 a2 a3 I L = some (r, I', L')), am_J x (fun S => S = (some (.int r), KM, RM, I', L')) 32 [some (.ref 0), some (.int a1), some (.int a2), some (.int a3), none, none, none, none] [] KM RM I L 0 0 := by
  induction m with
  | zero => intro a1 a2 a3 I L hf; exact (Option.some_ne_none _ hf.symm).elim
  | succ m ih => intro a1 a2 a3 I L hf; exact tX12_ask_b32w n d hc (fX12_ask_b32 n d m) ih a1 a2 a3 I L hf

set_option maxRecDepth 100000 in
def fX12_ask (n d : Nat) (a1 : Int32) (a2 : Int32) (I : am_I) (L : am_L) : Option (Int32 × am_I × am_L) :=
  am_b3 (fX12_in n d a1 (1 : Int32) (3 : Int32) I L) (fun v1 I1 L1 => if v1 = 0 then
    (some ((-1 : Int32), I1, L1))
    else
    (am_b3 (fX12_in n d a2 (0 : Int32) (1 : Int32) I1 L1) (fun v2 I2 L2 => if v2 = 0 then
      (some ((-1 : Int32), I2, L2))
      else
      (am_b3 (fX12_fit n d a1 (0 : Int32) I2 L2) (fun v3 I3 L3 => if v3 = (-1 : Int32) then
        (some ((-1 : Int32), I3, L3))
        else
        (am_lt (0 : Int32) (fun v4 => fX12_ask_b32 n d n a1 a2 v4 I3 L3)))))))

set_option maxRecDepth 100000 in
set_option maxHeartbeats 4000000 in
theorem tX12_ask {x : am_X} (n d : Nat) (hc : am_ok x cX12_ask yX12_ask 8 (some .int) (d + 4) 0 0) {r : Int32} {I' : am_I} {L' : am_L} (a1 : Int32) (a2 : Int32) (I : am_I) (L : am_L) (hf : fX12_ask n d a1 a2 I L = some (r, I', L')) : am_J x (fun S => S = (some (.int r), KM, RM, I', L')) 0 [some (.ref 0), some (.int a1), some (.int a2), none, none, none, none, none] [] KM RM I L 0 0 := by
  unfold fX12_ask at hf
  refine j_iload_n hc dX12_ask_0 rfl ?_
  refine j_iconst (v := (1 : Int32)) hc dX12_ask_1 ci_1 ?_
  refine j_iconst (v := (3 : Int32)) hc dX12_ask_2 ci_3 ?_
  refine j_callSI (As := [.int a1, .int (1 : Int32), .int (3 : Int32)]) hc dX12_ask_3 kw_1671 mX12_in  rfl (by omega) (Nat.le_of_ble_eq_true rfl) (Nat.le_of_ble_eq_true rfl) ⟨Nat.le_refl _, Nat.le_refl _⟩ hf (fun v I' L' h => qX12_in x.2.1 n d a1 (1 : Int32) (3 : Int32) I L v I' L' h) (fun v1 I1 L1 hf => ?_)
  refine j_if_eq (tgt := 28) hc dX12_ask_6 rfl hf (fun hf => ?_) (fun hf => ?_)
  · refine j_iconst (v := (-1 : Int32)) hc dX12_ask_28 ci_m1 ?_
    exact j_ireturn hc dX12_ask_29 rfl rfl hf
  · refine j_iload_n hc dX12_ask_9 rfl ?_
    refine j_iconst (v := (0 : Int32)) hc dX12_ask_10 ci_0 ?_
    refine j_iconst (v := (1 : Int32)) hc dX12_ask_11 ci_1 ?_
    refine j_callSI (As := [.int a2, .int (0 : Int32), .int (1 : Int32)]) hc dX12_ask_12 kw_1671 mX12_in  rfl (by omega) (Nat.le_of_ble_eq_true rfl) (Nat.le_of_ble_eq_true rfl) ⟨Nat.le_refl _, Nat.le_refl _⟩ hf (fun v I' L' h => qX12_in x.2.1 n d a2 (0 : Int32) (1 : Int32) I1 L1 v I' L' h) (fun v2 I2 L2 hf => ?_)
    refine j_if_eq (tgt := 28) hc dX12_ask_15 rfl hf (fun hf => ?_) (fun hf => ?_)
    · refine j_iconst (v := (-1 : Int32)) hc dX12_ask_28 ci_m1 ?_
      exact j_ireturn hc dX12_ask_29 rfl rfl hf
    · refine j_aload_n hc dX12_ask_18 rfl ?_
      refine j_iload_n hc dX12_ask_19 rfl ?_
      refine j_iconst (v := (0 : Int32)) hc dX12_ask_20 ci_0 ?_
      refine j_callVI (t := 0) (As := [.int a1, .int (0 : Int32)]) hc dX12_ask_21 kw_2088 mX12_fit kM_0 clX12 rfl (by omega) (Nat.le_of_ble_eq_true rfl) (Nat.le_of_ble_eq_true rfl) ⟨Nat.le_refl _, Nat.le_refl _⟩ hf (fun v I' L' h => qX12_fit x.2.1 n d a1 (0 : Int32) I2 L2 v I' L' h) (fun v3 I3 L3 hf => ?_)
      refine j_iconst (v := (-1 : Int32)) hc dX12_ask_24 ci_m1 ?_
      refine j_icmp_ne (tgt := 30) hc dX12_ask_25 rfl hf (fun hf => ?_) (fun hf => ?_)
      · refine j_iconst (v := (0 : Int32)) hc dX12_ask_30 ci_0 ?_
        refine j_istore_n hc dX12_ask_31 (Nat.le_of_ble_eq_true rfl) hf (fun v4 hf => ?_)
        exact j_sub (tX12_ask_b32 n d hc n _ _ _ _ _ hf) (And.intro rfl (And.intro rfl (And.intro rfl (And.intro rfl (trivial)))))
      · refine j_iconst (v := (-1 : Int32)) hc dX12_ask_28 ci_m1 ?_
        exact j_ireturn hc dX12_ask_29 rfl rfl hf

set_option maxRecDepth 100000 in
theorem qX12_ask (l : Launch) (n d : Nat) (a1 : Int32) (a2 : Int32) (I : am_I) (L : am_L) (r : Int32) (I' : am_I) (L' : am_L) (hf : fX12_ask n d a1 a2 I L = some (r, I', L')) : am_C l yX12_ask cX12_ask 8 (some .int) (d + 4) [.ref 0, .int a1, .int a2] KM RM I L (some (.int r)) I' L' := by
  exact am_intro (plainFor_of_name plX12) (fun _ _ => trivial) (Nat.le_of_ble_eq_true rfl) (fun x hl hc => by subst hl; exact j_sub (tX12_ask n d hc _ _ _ _ hf) (And.intro rfl (And.intro rfl (And.intro rfl (trivial)))))
set_option maxRecDepth 100000 in
def fX12_oddsOf_b49w (n d : Nat) (k41 : Int32 → Int32 → Int32 → am_I → am_L → Option (Int32 × am_I × am_L)) (k49 : Int32 → Int32 → Int32 → Int32 → am_I → am_L → Option (Int32 × am_I × am_L)) (a1 : Int32) (a2 : Int32) (a3 : Int32) (a4 : Int32) (I : am_I) (L : am_L) : Option (Int32 × am_I × am_L) :=
  if (21 : Int32) ≤ a4 then
    (am_lt (a3 + (1 : Int32)) (fun v1 => k41 a1 a2 v1 I L))
    else
    (am_ck a4 21 (am_lt (L 24 (a4).toNatClampNeg) (fun v2 => am_ck a4 21 (am_lt (L 24 (a4).toNatClampNeg) (fun v3 => am_ck (((6 : Int32) * a1) + (5 : Int32)) 48 (am_lt (I 14 ((((6 : Int32) * a1) + (5 : Int32))).toNatClampNeg) (fun v4 => (if (10 : Int64) = 0 then none else am_lt (v2 - ((v3 * v4.toInt64) / (10 : Int64))) (fun v5 => am_ck a4 21 (am_lt (L 24 (a4).toNatClampNeg) (fun v6 => am_ck a4 21 (am_lt (am_uL L 24 (a4).toNatClampNeg (v6 - v5)) (fun L7 => am_ck (a4 - (1 : Int32)) 21 (am_lt (L7 24 ((a4 - (1 : Int32))).toNatClampNeg) (fun v8 => am_ck (a4 - (1 : Int32)) 21 (am_lt (am_uL L7 24 ((a4 - (1 : Int32))).toNatClampNeg (v8 + v5)) (fun L9 => am_lt (a4 + (1 : Int32)) (fun v10 => k49 a1 a2 a3 v10 I L9))))))))))))))))))

set_option maxRecDepth 100000 in
set_option maxHeartbeats 4000000 in
theorem tX12_oddsOf_b49w {x : am_X} (n d : Nat) (hc : am_ok x cX12_oddsOf yX12_oddsOf 7 (some .int) (d + 1) 0 0) {r : Int32} {I' : am_I} {L' : am_L} (k41 : Int32 → Int32 → Int32 → am_I → am_L → Option (Int32 × am_I × am_L)) (k49 : Int32 → Int32 → Int32 → Int32 → am_I → am_L → Option (Int32 × am_I × am_L)) (hk41 : ∀ (a1 : Int32) (a2 : Int32) (a3 : Int32) (I : am_I) (L : am_L), k41 a1 a2 a3 I L = some (r, I', L') → am_J x (fun S => S = (some (.int r), KM, RM, I', L')) 41 [some (.ref 0), some (.int a1), some (.int a2), some (.int a3), none, none, none] [] KM RM I L 0 0) (hk49 : ∀ (a1 : Int32) (a2 : Int32) (a3 : Int32) (a4 : Int32) (I : am_I) (L : am_L), k49 a1 a2 a3 a4 I L = some (r, I', L') → am_J x (fun S => S = (some (.int r), KM, RM, I', L')) 49 [some (.ref 0), some (.int a1), some (.int a2), some (.int a3), some (.int a4), none, none] [] KM RM I L 0 0) (a1 : Int32) (a2 : Int32) (a3 : Int32) (a4 : Int32) (I : am_I) (L : am_L) (hf : fX12_oddsOf_b49w n d k41 k49 a1 a2 a3 a4 I L = some (r, I', L')) : am_J x (fun S => S = (some (.int r), KM, RM, I', L')) 49 [some (.ref 0), some (.int a1), some (.int a2), some (.int a3), some (.int a4), none, none] [] KM RM I L 0 0 := by
  unfold fX12_oddsOf_b49w at hf
  refine j_iload hc dX12_oddsOf_49 rfl ?_
  refine j_bipush (v := (21 : Int32)) hc dX12_oddsOf_51 cb_21 ?_
  refine j_icmp_ge (tgt := 122) hc dX12_oddsOf_53 rfl hf (fun hf => ?_) (fun hf => ?_)
  · refine j_iinc (w := (1 : Int32)) hc dX12_oddsOf_122 rfl ci_1 (Nat.le_of_ble_eq_true rfl) hf (fun v1 hf => ?_)
    refine j_goto (tgt := 41) hc dX12_oddsOf_125 rfl ?_
    exact j_sub (hk41 _ _ _ _ _ hf) (And.intro rfl (And.intro rfl (And.intro rfl (And.intro rfl (trivial)))))
  · refine j_aload_n hc dX12_oddsOf_56 rfl ?_
    refine j_getR (u := 24) hc dX12_oddsOf_57 fgM_X12_84_0 rM_0_41 ?_
    refine j_iload hc dX12_oddsOf_60 rfl ?_
    refine j_laload (n := 21) hc dX12_oddsOf_62 kM_24 hf (fun v2 hf => ?_)
    refine j_aload_n hc dX12_oddsOf_63 rfl ?_
    refine j_getR (u := 24) hc dX12_oddsOf_64 fgM_X12_84_0 rM_0_41 ?_
    refine j_iload hc dX12_oddsOf_67 rfl ?_
    refine j_laload (n := 21) hc dX12_oddsOf_69 kM_24 hf (fun v3 hf => ?_)
    refine j_aload_n hc dX12_oddsOf_70 rfl ?_
    refine j_getR (u := 14) hc dX12_oddsOf_71 fgM_X12_49_0 rM_0_22 ?_
    refine j_bipush (v := (6 : Int32)) hc dX12_oddsOf_74 cb_6 ?_
    refine j_iload_n hc dX12_oddsOf_76 rfl ?_
    refine j_imul hc dX12_oddsOf_77 ?_
    refine j_iconst (v := (5 : Int32)) hc dX12_oddsOf_78 ci_5 ?_
    refine j_iadd hc dX12_oddsOf_79 ?_
    refine j_iaload (n := 48) hc dX12_oddsOf_80 kM_14 hf (fun v4 hf => ?_)
    refine j_i2l hc dX12_oddsOf_81 ?_
    refine j_lmul hc dX12_oddsOf_82 ?_
    refine j_ldc2 (v := (10 : Int64)) hc dX12_oddsOf_83 kw_2102 ?_
    refine j_ldiv hc dX12_oddsOf_86 hf (fun hf => ?_)
    refine j_lsub hc dX12_oddsOf_87 ?_
    refine j_lstore hc dX12_oddsOf_88 (Nat.le_of_ble_eq_true rfl) hf (fun v5 hf => ?_)
    refine j_aload_n hc dX12_oddsOf_90 rfl ?_
    refine j_getR (u := 24) hc dX12_oddsOf_91 fgM_X12_84_0 rM_0_41 ?_
    refine j_iload hc dX12_oddsOf_94 rfl ?_
    refine j_dup2 hc dX12_oddsOf_96 rfl rfl ?_
    refine j_laload (n := 21) hc dX12_oddsOf_97 kM_24 hf (fun v6 hf => ?_)
    refine j_lload hc dX12_oddsOf_98 rfl ?_
    refine j_lsub hc dX12_oddsOf_100 ?_
    refine j_lastore (n := 21) hc dX12_oddsOf_101 kM_24 hf (fun L7 hf => ?_)
    refine j_aload_n hc dX12_oddsOf_102 rfl ?_
    refine j_getR (u := 24) hc dX12_oddsOf_103 fgM_X12_84_0 rM_0_41 ?_
    refine j_iload hc dX12_oddsOf_106 rfl ?_
    refine j_iconst (v := (1 : Int32)) hc dX12_oddsOf_108 ci_1 ?_
    refine j_isub hc dX12_oddsOf_109 ?_
    refine j_dup2 hc dX12_oddsOf_110 rfl rfl ?_
    refine j_laload (n := 21) hc dX12_oddsOf_111 kM_24 hf (fun v8 hf => ?_)
    refine j_lload hc dX12_oddsOf_112 rfl ?_
    refine j_ladd hc dX12_oddsOf_114 ?_
    refine j_lastore (n := 21) hc dX12_oddsOf_115 kM_24 hf (fun L9 hf => ?_)
    refine j_iinc (w := (1 : Int32)) hc dX12_oddsOf_116 rfl ci_1 (Nat.le_of_ble_eq_true rfl) hf (fun v10 hf => ?_)
    refine j_goto (tgt := 49) hc dX12_oddsOf_119 rfl ?_
    exact j_sub (hk49 _ _ _ _ _ _ hf) (And.intro rfl (And.intro rfl (And.intro rfl (And.intro rfl (And.intro rfl (trivial))))))

def fX12_oddsOf_b49 (n d : Nat) (k41 : Int32 → Int32 → Int32 → am_I → am_L → Option (Int32 × am_I × am_L)) : Nat → Int32 → Int32 → Int32 → Int32 → am_I → am_L → Option (Int32 × am_I × am_L)
  | 0 => fun _ _ _ _ _ _ => none
  | m + 1 => fX12_oddsOf_b49w n d  k41 (fX12_oddsOf_b49 n d k41 m)

set_option maxRecDepth 100000 in
theorem tX12_oddsOf_b49 {x : am_X} (n d : Nat) (hc : am_ok x cX12_oddsOf yX12_oddsOf 7 (some .int) (d + 1) 0 0) {r : Int32} {I' : am_I} {L' : am_L} (k41 : Int32 → Int32 → Int32 → am_I → am_L → Option (Int32 × am_I × am_L)) (hk41 : ∀ (a1 : Int32) (a2 : Int32) (a3 : Int32) (I : am_I) (L : am_L), k41 a1 a2 a3 I L = some (r, I', L') → am_J x (fun S => S = (some (.int r), KM, RM, I', L')) 41 [some (.ref 0), some (.int a1), some (.int a2), some (.int a3), none, none, none] [] KM RM I L 0 0) (m : Nat) : ∀ (a1 : Int32) (a2 : Int32) (a3 : Int32) (a4 : Int32) (I : am_I) (L : am_L) (hf : fX12_oddsOf_b49 n d k41 m a1 a2 a3 a4 I L = some (r, I', L')), am_J x (fun S => S = (some (.int r), KM, RM, I', L')) 49 [some (.ref 0), some (.int a1), some (.int a2), some (.int a3), some (.int a4), none, none] [] KM RM I L 0 0 := by
  induction m with
  | zero => intro a1 a2 a3 a4 I L hf; exact (Option.some_ne_none _ hf.symm).elim
  | succ m ih => intro a1 a2 a3 a4 I L hf; exact tX12_oddsOf_b49w n d hc k41 (fX12_oddsOf_b49 n d k41 m) hk41 ih a1 a2 a3 a4 I L hf

set_option maxRecDepth 100000 in
def fX12_oddsOf_b41w (n d : Nat) (k41 : Int32 → Int32 → Int32 → am_I → am_L → Option (Int32 × am_I × am_L)) (a1 : Int32) (a2 : Int32) (a3 : Int32) (I : am_I) (L : am_L) : Option (Int32 × am_I × am_L) :=
  if a2 ≤ a3 then
    (am_ck (0 : Int32) 21 (am_lt (L 24 ((0 : Int32)).toNatClampNeg) (fun v1 => some (v1.toInt32, I, L))))
    else
    (am_lt (1 : Int32) (fun v2 => fX12_oddsOf_b49 n d k41 n a1 a2 a3 v2 I L))

set_option maxRecDepth 100000 in
set_option maxHeartbeats 4000000 in
theorem tX12_oddsOf_b41w {x : am_X} (n d : Nat) (hc : am_ok x cX12_oddsOf yX12_oddsOf 7 (some .int) (d + 1) 0 0) {r : Int32} {I' : am_I} {L' : am_L} (k41 : Int32 → Int32 → Int32 → am_I → am_L → Option (Int32 × am_I × am_L)) (hk41 : ∀ (a1 : Int32) (a2 : Int32) (a3 : Int32) (I : am_I) (L : am_L), k41 a1 a2 a3 I L = some (r, I', L') → am_J x (fun S => S = (some (.int r), KM, RM, I', L')) 41 [some (.ref 0), some (.int a1), some (.int a2), some (.int a3), none, none, none] [] KM RM I L 0 0) (a1 : Int32) (a2 : Int32) (a3 : Int32) (I : am_I) (L : am_L) (hf : fX12_oddsOf_b41w n d k41 a1 a2 a3 I L = some (r, I', L')) : am_J x (fun S => S = (some (.int r), KM, RM, I', L')) 41 [some (.ref 0), some (.int a1), some (.int a2), some (.int a3), none, none, none] [] KM RM I L 0 0 := by
  unfold fX12_oddsOf_b41w at hf
  refine j_iload_n hc dX12_oddsOf_41 rfl ?_
  refine j_iload_n hc dX12_oddsOf_42 rfl ?_
  refine j_icmp_ge (tgt := 128) hc dX12_oddsOf_43 rfl hf (fun hf => ?_) (fun hf => ?_)
  · refine j_aload_n hc dX12_oddsOf_128 rfl ?_
    refine j_getR (u := 24) hc dX12_oddsOf_129 fgM_X12_84_0 rM_0_41 ?_
    refine j_iconst (v := (0 : Int32)) hc dX12_oddsOf_132 ci_0 ?_
    refine j_laload (n := 21) hc dX12_oddsOf_133 kM_24 hf (fun v1 hf => ?_)
    refine j_l2i hc dX12_oddsOf_134 ?_
    exact j_ireturn hc dX12_oddsOf_135 rfl rfl hf
  · refine j_iconst (v := (1 : Int32)) hc dX12_oddsOf_46 ci_1 ?_
    refine j_istore hc dX12_oddsOf_47 (Nat.le_of_ble_eq_true rfl) hf (fun v2 hf => ?_)
    exact j_sub (tX12_oddsOf_b49 n d hc k41 hk41 n _ _ _ _ _ _ hf) (And.intro rfl (And.intro rfl (And.intro rfl (And.intro rfl (And.intro rfl (trivial))))))

def fX12_oddsOf_b41 (n d : Nat) : Nat → Int32 → Int32 → Int32 → am_I → am_L → Option (Int32 × am_I × am_L)
  | 0 => fun _ _ _ _ _ => none
  | m + 1 => fX12_oddsOf_b41w n d  (fX12_oddsOf_b41 n d m)

set_option maxRecDepth 100000 in
theorem tX12_oddsOf_b41 {x : am_X} (n d : Nat) (hc : am_ok x cX12_oddsOf yX12_oddsOf 7 (some .int) (d + 1) 0 0) {r : Int32} {I' : am_I} {L' : am_L} (m : Nat) : ∀ (a1 : Int32) (a2 : Int32) (a3 : Int32) (I : am_I) (L : am_L) (hf : fX12_oddsOf_b41 n d m a1 a2 a3 I L = some (r, I', L')), am_J x (fun S => S = (some (.int r), KM, RM, I', L')) 41 [some (.ref 0), some (.int a1), some (.int a2), some (.int a3), none, none, none] [] KM RM I L 0 0 := by
  induction m with
  | zero => intro a1 a2 a3 I L hf; exact (Option.some_ne_none _ hf.symm).elim
  | succ m ih => intro a1 a2 a3 I L hf; exact tX12_oddsOf_b41w n d hc (fX12_oddsOf_b41 n d m) ih a1 a2 a3 I L hf

set_option maxRecDepth 100000 in
def fX12_oddsOf_b32 (n d : Nat) (k2 : Int32 → Int32 → Int32 → am_I → am_L → Option (Int32 × am_I × am_L)) (s1 : Int32) (s2 : Int64) (a1 : Int32) (a2 : Int32) (a3 : Int32) (I : am_I) (L : am_L) : Option (Int32 × am_I × am_L) :=
  am_ck s1 21 (am_lt (am_uL L 24 (s1).toNatClampNeg s2) (fun L1 => am_lt (a3 + (1 : Int32)) (fun v2 => k2 a1 a2 v2 I L1)))

set_option maxRecDepth 100000 in
set_option maxHeartbeats 4000000 in
theorem tX12_oddsOf_b32 {x : am_X} (n d : Nat) (hc : am_ok x cX12_oddsOf yX12_oddsOf 7 (some .int) (d + 1) 0 0) {r : Int32} {I' : am_I} {L' : am_L} (k2 : Int32 → Int32 → Int32 → am_I → am_L → Option (Int32 × am_I × am_L)) (hk2 : ∀ (a1 : Int32) (a2 : Int32) (a3 : Int32) (I : am_I) (L : am_L), k2 a1 a2 a3 I L = some (r, I', L') → am_J x (fun S => S = (some (.int r), KM, RM, I', L')) 2 [some (.ref 0), some (.int a1), some (.int a2), some (.int a3), none, none, none] [] KM RM I L 0 0) (s1 : Int32) (s2 : Int64) (a1 : Int32) (a2 : Int32) (a3 : Int32) (I : am_I) (L : am_L) (hf : fX12_oddsOf_b32 n d k2 s1 s2 a1 a2 a3 I L = some (r, I', L')) : am_J x (fun S => S = (some (.int r), KM, RM, I', L')) 32 [some (.ref 0), some (.int a1), some (.int a2), some (.int a3), none, none, none] [.long s2, .int s1, .ref 24] KM RM I L 0 0 := by
  unfold fX12_oddsOf_b32 at hf
  refine j_lastore (n := 21) hc dX12_oddsOf_32 kM_24 hf (fun L1 hf => ?_)
  refine j_iinc (w := (1 : Int32)) hc dX12_oddsOf_33 rfl ci_1 (Nat.le_of_ble_eq_true rfl) hf (fun v2 hf => ?_)
  refine j_goto (tgt := 2) hc dX12_oddsOf_36 rfl ?_
  exact j_sub (hk2 _ _ _ _ _ hf) (And.intro rfl (And.intro rfl (And.intro rfl (And.intro rfl (trivial)))))

set_option maxRecDepth 100000 in
def fX12_oddsOf_b2w (n d : Nat) (k2 : Int32 → Int32 → Int32 → am_I → am_L → Option (Int32 × am_I × am_L)) (a1 : Int32) (a2 : Int32) (a3 : Int32) (I : am_I) (L : am_L) : Option (Int32 × am_I × am_L) :=
  if (21 : Int32) ≤ a3 then
    (am_lt (0 : Int32) (fun v1 => fX12_oddsOf_b41 n d n a1 a2 v1 I L))
    else
    (am_ck ((0 : Int32) + a1) 206 (am_lt (I 17 (((0 : Int32) + a1)).toNatClampNeg) (fun v2 => if a3 = v2 then
      (fX12_oddsOf_b32 n d k2 a3 (1000000000 : Int64) a1 a2 a3 I L)
      else
      (fX12_oddsOf_b32 n d k2 a3 (0 : Int64) a1 a2 a3 I L))))

set_option maxRecDepth 100000 in
set_option maxHeartbeats 4000000 in
theorem tX12_oddsOf_b2w {x : am_X} (n d : Nat) (hc : am_ok x cX12_oddsOf yX12_oddsOf 7 (some .int) (d + 1) 0 0) {r : Int32} {I' : am_I} {L' : am_L} (k2 : Int32 → Int32 → Int32 → am_I → am_L → Option (Int32 × am_I × am_L)) (hk2 : ∀ (a1 : Int32) (a2 : Int32) (a3 : Int32) (I : am_I) (L : am_L), k2 a1 a2 a3 I L = some (r, I', L') → am_J x (fun S => S = (some (.int r), KM, RM, I', L')) 2 [some (.ref 0), some (.int a1), some (.int a2), some (.int a3), none, none, none] [] KM RM I L 0 0) (a1 : Int32) (a2 : Int32) (a3 : Int32) (I : am_I) (L : am_L) (hf : fX12_oddsOf_b2w n d k2 a1 a2 a3 I L = some (r, I', L')) : am_J x (fun S => S = (some (.int r), KM, RM, I', L')) 2 [some (.ref 0), some (.int a1), some (.int a2), some (.int a3), none, none, none] [] KM RM I L 0 0 := by
  unfold fX12_oddsOf_b2w at hf
  refine j_iload_n hc dX12_oddsOf_2 rfl ?_
  refine j_bipush (v := (21 : Int32)) hc dX12_oddsOf_3 cb_21 ?_
  refine j_icmp_ge (tgt := 39) hc dX12_oddsOf_5 rfl hf (fun hf => ?_) (fun hf => ?_)
  · refine j_iconst (v := (0 : Int32)) hc dX12_oddsOf_39 ci_0 ?_
    refine j_istore_n hc dX12_oddsOf_40 (Nat.le_of_ble_eq_true rfl) hf (fun v1 hf => ?_)
    exact j_sub (tX12_oddsOf_b41 n d hc n _ _ _ _ _ hf) (And.intro rfl (And.intro rfl (And.intro rfl (And.intro rfl (trivial)))))
  · refine j_aload_n hc dX12_oddsOf_8 rfl ?_
    refine j_getR (u := 24) hc dX12_oddsOf_9 fgM_X12_84_0 rM_0_41 ?_
    refine j_iload_n hc dX12_oddsOf_12 rfl ?_
    refine j_iload_n hc dX12_oddsOf_13 rfl ?_
    refine j_aload_n hc dX12_oddsOf_14 rfl ?_
    refine j_getR (u := 17) hc dX12_oddsOf_15 fgM_X12_58_0 rM_0_27 ?_
    refine j_iconst (v := (0 : Int32)) hc dX12_oddsOf_18 ci_0 ?_
    refine j_iload_n hc dX12_oddsOf_19 rfl ?_
    refine j_iadd hc dX12_oddsOf_20 ?_
    refine j_iaload (n := 206) hc dX12_oddsOf_21 kM_17 hf (fun v2 hf => ?_)
    refine j_icmp_ne (tgt := 31) hc dX12_oddsOf_22 rfl hf (fun hf => ?_) (fun hf => ?_)
    · refine j_lconst (v := (0 : Int64)) hc dX12_oddsOf_31 cl__0 ?_
      exact j_sub (tX12_oddsOf_b32 n d hc k2 hk2 _ _ _ _ _ _ _ hf) (And.intro rfl (And.intro rfl (And.intro rfl (And.intro rfl (trivial)))))
    · refine j_ldc2 (v := (1000000000 : Int64)) hc dX12_oddsOf_25 kw_2101 ?_
      refine j_goto (tgt := 32) hc dX12_oddsOf_28 rfl ?_
      exact j_sub (tX12_oddsOf_b32 n d hc k2 hk2 _ _ _ _ _ _ _ hf) (And.intro rfl (And.intro rfl (And.intro rfl (And.intro rfl (trivial)))))

def fX12_oddsOf_b2 (n d : Nat) : Nat → Int32 → Int32 → Int32 → am_I → am_L → Option (Int32 × am_I × am_L)
  | 0 => fun _ _ _ _ _ => none
  | m + 1 => fX12_oddsOf_b2w n d  (fX12_oddsOf_b2 n d m)

set_option maxRecDepth 100000 in
theorem tX12_oddsOf_b2 {x : am_X} (n d : Nat) (hc : am_ok x cX12_oddsOf yX12_oddsOf 7 (some .int) (d + 1) 0 0) {r : Int32} {I' : am_I} {L' : am_L} (m : Nat) : ∀ (a1 : Int32) (a2 : Int32) (a3 : Int32) (I : am_I) (L : am_L) (hf : fX12_oddsOf_b2 n d m a1 a2 a3 I L = some (r, I', L')), am_J x (fun S => S = (some (.int r), KM, RM, I', L')) 2 [some (.ref 0), some (.int a1), some (.int a2), some (.int a3), none, none, none] [] KM RM I L 0 0 := by
  induction m with
  | zero => intro a1 a2 a3 I L hf; exact (Option.some_ne_none _ hf.symm).elim
  | succ m ih => intro a1 a2 a3 I L hf; exact tX12_oddsOf_b2w n d hc (fX12_oddsOf_b2 n d m) ih a1 a2 a3 I L hf

set_option maxRecDepth 100000 in
def fX12_oddsOf (n d : Nat) (a1 : Int32) (a2 : Int32) (I : am_I) (L : am_L) : Option (Int32 × am_I × am_L) :=
  am_lt (0 : Int32) (fun v1 => fX12_oddsOf_b2 n d n a1 a2 v1 I L)

set_option maxRecDepth 100000 in
set_option maxHeartbeats 4000000 in
theorem tX12_oddsOf {x : am_X} (n d : Nat) (hc : am_ok x cX12_oddsOf yX12_oddsOf 7 (some .int) (d + 1) 0 0) {r : Int32} {I' : am_I} {L' : am_L} (a1 : Int32) (a2 : Int32) (I : am_I) (L : am_L) (hf : fX12_oddsOf n d a1 a2 I L = some (r, I', L')) : am_J x (fun S => S = (some (.int r), KM, RM, I', L')) 0 [some (.ref 0), some (.int a1), some (.int a2), none, none, none, none] [] KM RM I L 0 0 := by
  unfold fX12_oddsOf at hf
  refine j_iconst (v := (0 : Int32)) hc dX12_oddsOf_0 ci_0 ?_
  refine j_istore_n hc dX12_oddsOf_1 (Nat.le_of_ble_eq_true rfl) hf (fun v1 hf => ?_)
  exact j_sub (tX12_oddsOf_b2 n d hc n _ _ _ _ _ hf) (And.intro rfl (And.intro rfl (And.intro rfl (And.intro rfl (trivial)))))

set_option maxRecDepth 100000 in
theorem qX12_oddsOf (l : Launch) (n d : Nat) (a1 : Int32) (a2 : Int32) (I : am_I) (L : am_L) (r : Int32) (I' : am_I) (L' : am_L) (hf : fX12_oddsOf n d a1 a2 I L = some (r, I', L')) : am_C l yX12_oddsOf cX12_oddsOf 7 (some .int) (d + 1) [.ref 0, .int a1, .int a2] KM RM I L (some (.int r)) I' L' := by
  exact am_intro (plainFor_of_name plX12) (fun _ _ => trivial) (Nat.le_of_ble_eq_true rfl) (fun x hl hc => by subst hl; exact j_sub (tX12_oddsOf n d hc _ _ _ _ hf) (And.intro rfl (And.intro rfl (And.intro rfl (trivial)))))
set_option maxRecDepth 100000 in
def fX12_odds (n d : Nat) (a1 : Int32) (a2 : Int32) (I : am_I) (L : am_L) : Option (Int32 × am_I × am_L) :=
  am_b3 (fX12_isMan n d a1 I L) (fun v1 I1 L1 => if v1 = 0 then
    (some ((-1 : Int32), I1, L1))
    else
    (am_b3 (fX12_in n d a2 (0 : Int32) (40 : Int32) I1 L1) (fun v2 I2 L2 => if v2 = 0 then
      (some ((-1 : Int32), I2, L2))
      else
      (am_b3 (fX12_oddsOf n d a1 a2 I2 L2) (fun v3 I3 L3 => some (v3, I3, L3))))))

set_option maxRecDepth 100000 in
set_option maxHeartbeats 4000000 in
theorem tX12_odds {x : am_X} (n d : Nat) (hc : am_ok x cX12_odds yX12_odds 3 (some .int) (d + 3) 0 0) {r : Int32} {I' : am_I} {L' : am_L} (a1 : Int32) (a2 : Int32) (I : am_I) (L : am_L) (hf : fX12_odds n d a1 a2 I L = some (r, I', L')) : am_J x (fun S => S = (some (.int r), KM, RM, I', L')) 0 [some (.ref 0), some (.int a1), some (.int a2)] [] KM RM I L 0 0 := by
  unfold fX12_odds at hf
  refine j_aload_n hc dX12_odds_0 rfl ?_
  refine j_iload_n hc dX12_odds_1 rfl ?_
  refine j_callVI (t := 0) (As := [.int a1]) hc dX12_odds_2 kw_1768 mX12_isMan kM_0 clX12 rfl (by omega) (Nat.le_of_ble_eq_true rfl) (Nat.le_of_ble_eq_true rfl) ⟨Nat.le_refl _, Nat.le_refl _⟩ hf (fun v I' L' h => qX12_isMan x.2.1 n d a1 I L v I' L' h) (fun v1 I1 L1 hf => ?_)
  refine j_if_eq (tgt := 27) hc dX12_odds_5 rfl hf (fun hf => ?_) (fun hf => ?_)
  · refine j_iconst (v := (-1 : Int32)) hc dX12_odds_27 ci_m1 ?_
    exact j_ireturn hc dX12_odds_28 rfl rfl hf
  · refine j_iload_n hc dX12_odds_8 rfl ?_
    refine j_iconst (v := (0 : Int32)) hc dX12_odds_9 ci_0 ?_
    refine j_bipush (v := (40 : Int32)) hc dX12_odds_10 cb_40 ?_
    refine j_callSI (As := [.int a2, .int (0 : Int32), .int (40 : Int32)]) hc dX12_odds_12 kw_1671 mX12_in  rfl (by omega) (Nat.le_of_ble_eq_true rfl) (Nat.le_of_ble_eq_true rfl) ⟨Nat.le_refl _, Nat.le_refl _⟩ hf (fun v I' L' h => qX12_in x.2.1 n d a2 (0 : Int32) (40 : Int32) I1 L1 v I' L' h) (fun v2 I2 L2 hf => ?_)
    refine j_if_eq (tgt := 27) hc dX12_odds_15 rfl hf (fun hf => ?_) (fun hf => ?_)
    · refine j_iconst (v := (-1 : Int32)) hc dX12_odds_27 ci_m1 ?_
      exact j_ireturn hc dX12_odds_28 rfl rfl hf
    · refine j_aload_n hc dX12_odds_18 rfl ?_
      refine j_iload_n hc dX12_odds_19 rfl ?_
      refine j_iload_n hc dX12_odds_20 rfl ?_
      refine j_callVI (t := 0) (As := [.int a1, .int a2]) hc dX12_odds_21 kw_2097 mX12_oddsOf kM_0 clX12 rfl (by omega) (Nat.le_of_ble_eq_true rfl) (Nat.le_of_ble_eq_true rfl) ⟨Nat.le_refl _, Nat.le_refl _⟩ hf (fun v I' L' h => qX12_oddsOf x.2.1 n d a1 a2 I2 L2 v I' L' h) (fun v3 I3 L3 hf => ?_)
      refine j_goto (tgt := 28) hc dX12_odds_24 rfl ?_
      exact j_ireturn hc dX12_odds_28 rfl rfl hf

set_option maxRecDepth 100000 in
theorem qX12_odds (l : Launch) (n d : Nat) (a1 : Int32) (a2 : Int32) (I : am_I) (L : am_L) (r : Int32) (I' : am_I) (L' : am_L) (hf : fX12_odds n d a1 a2 I L = some (r, I', L')) : am_C l yX12_odds cX12_odds 3 (some .int) (d + 3) [.ref 0, .int a1, .int a2] KM RM I L (some (.int r)) I' L' := by
  exact am_intro (plainFor_of_name plX12) (fun _ _ => trivial) (Nat.le_of_ble_eq_true rfl) (fun x hl hc => by subst hl; exact j_sub (tX12_odds n d hc _ _ _ _ hf) (And.intro rfl (And.intro rfl (And.intro rfl (trivial)))))
set_option maxRecDepth 100000 in
def fX12_hurry_b83 (n d : Nat) (k8 : Int32 → Int32 → Int32 → Int32 → Int32 → am_I → am_L → Option (Int32 × am_I × am_L)) (s0 : Int32) (a1 : Int32) (a2 : Int32) (a4 : Int32) (a5 : Int32) (a6 : Int32) (I : am_I) (L : am_L) : Option (Int32 × am_I × am_L) :=
  am_lt s0 (fun v1 => am_b3 (fJ9_max_7cf53 n d a4 a6 I L) (fun v2 I2 L2 => am_lt v2 (fun v3 => am_lt (a5 + (1 : Int32)) (fun v4 => k8 a1 a2 v1 v3 v4 I2 L2))))

set_option maxRecDepth 100000 in
set_option maxHeartbeats 4000000 in
theorem tX12_hurry_b83 {x : am_X} (n d : Nat) (hc : am_ok x cX12_hurry yX12_hurry 7 (some .int) (d + 3) 0 0) {r : Int32} {I' : am_I} {L' : am_L} (k8 : Int32 → Int32 → Int32 → Int32 → Int32 → am_I → am_L → Option (Int32 × am_I × am_L)) (hk8 : ∀ (a1 : Int32) (a2 : Int32) (a3 : Int32) (a4 : Int32) (a5 : Int32) (I : am_I) (L : am_L), k8 a1 a2 a3 a4 a5 I L = some (r, I', L') → am_J x (fun S => S = (some (.int r), KM, RM, I', L')) 8 [some (.ref 0), some (.int a1), some (.int a2), some (.int a3), some (.int a4), some (.int a5), none] [] KM RM I L 0 0) (s0 : Int32) (a1 : Int32) (a2 : Int32) (a4 : Int32) (a5 : Int32) (a6 : Int32) (I : am_I) (L : am_L) (hf : fX12_hurry_b83 n d k8 s0 a1 a2 a4 a5 a6 I L = some (r, I', L')) : am_J x (fun S => S = (some (.int r), KM, RM, I', L')) 83 [some (.ref 0), some (.int a1), some (.int a2), none, some (.int a4), some (.int a5), some (.int a6)] [.int s0] KM RM I L 0 0 := by
  unfold fX12_hurry_b83 at hf
  refine j_istore_n hc dX12_hurry_83 (Nat.le_of_ble_eq_true rfl) hf (fun v1 hf => ?_)
  refine j_iload hc dX12_hurry_84 rfl ?_
  refine j_iload hc dX12_hurry_86 rfl ?_
  refine j_callSI (As := [.int a4, .int a6]) hc dX12_hurry_88 kw_1882 mJ9_max_7cf53  rfl (by omega) (Nat.le_of_ble_eq_true rfl) (Nat.le_of_ble_eq_true rfl) ⟨Nat.le_refl _, Nat.le_refl _⟩ hf (fun v I' L' h => qJ9_max_7cf53 x.2.1 n d a4 a6 I L v I' L' h) (fun v2 I2 L2 hf => ?_)
  refine j_istore hc dX12_hurry_91 (Nat.le_of_ble_eq_true rfl) hf (fun v3 hf => ?_)
  refine j_iinc (w := (1 : Int32)) hc dX12_hurry_93 rfl ci_1 (Nat.le_of_ble_eq_true rfl) hf (fun v4 hf => ?_)
  refine j_goto (tgt := 8) hc dX12_hurry_96 rfl ?_
  exact j_sub (hk8 _ _ _ _ _ _ _ hf) (And.intro rfl (And.intro rfl (And.intro rfl (And.intro rfl (And.intro rfl (And.intro rfl (trivial)))))))

set_option maxRecDepth 100000 in
def fX12_hurry_b68 (n d : Nat) (k8 : Int32 → Int32 → Int32 → Int32 → Int32 → am_I → am_L → Option (Int32 × am_I × am_L)) (s0 : Int32) (a1 : Int32) (a2 : Int32) (a3 : Int32) (a4 : Int32) (a5 : Int32) (I : am_I) (L : am_L) : Option (Int32 × am_I × am_L) :=
  am_lt s0 (fun v1 => if v1 ≤ a4 then
    (fX12_hurry_b83 n d k8 a3 a1 a2 a4 a5 v1 I L)
    else
    (fX12_hurry_b83 n d k8 a5 a1 a2 a4 a5 v1 I L))

set_option maxRecDepth 100000 in
set_option maxHeartbeats 4000000 in
theorem tX12_hurry_b68 {x : am_X} (n d : Nat) (hc : am_ok x cX12_hurry yX12_hurry 7 (some .int) (d + 3) 0 0) {r : Int32} {I' : am_I} {L' : am_L} (k8 : Int32 → Int32 → Int32 → Int32 → Int32 → am_I → am_L → Option (Int32 × am_I × am_L)) (hk8 : ∀ (a1 : Int32) (a2 : Int32) (a3 : Int32) (a4 : Int32) (a5 : Int32) (I : am_I) (L : am_L), k8 a1 a2 a3 a4 a5 I L = some (r, I', L') → am_J x (fun S => S = (some (.int r), KM, RM, I', L')) 8 [some (.ref 0), some (.int a1), some (.int a2), some (.int a3), some (.int a4), some (.int a5), none] [] KM RM I L 0 0) (s0 : Int32) (a1 : Int32) (a2 : Int32) (a3 : Int32) (a4 : Int32) (a5 : Int32) (I : am_I) (L : am_L) (hf : fX12_hurry_b68 n d k8 s0 a1 a2 a3 a4 a5 I L = some (r, I', L')) : am_J x (fun S => S = (some (.int r), KM, RM, I', L')) 68 [some (.ref 0), some (.int a1), some (.int a2), some (.int a3), some (.int a4), some (.int a5), none] [.int s0] KM RM I L 0 0 := by
  unfold fX12_hurry_b68 at hf
  refine j_istore hc dX12_hurry_68 (Nat.le_of_ble_eq_true rfl) hf (fun v1 hf => ?_)
  refine j_iload hc dX12_hurry_70 rfl ?_
  refine j_iload hc dX12_hurry_72 rfl ?_
  refine j_icmp_le (tgt := 82) hc dX12_hurry_74 rfl hf (fun hf => ?_) (fun hf => ?_)
  · refine j_iload_n hc dX12_hurry_82 rfl ?_
    exact j_sub (tX12_hurry_b83 n d hc k8 hk8 _ _ _ _ _ _ _ _ hf) (And.intro rfl (And.intro rfl (And.intro rfl (And.intro rfl (And.intro rfl (And.intro rfl (trivial)))))))
  · refine j_iload hc dX12_hurry_77 rfl ?_
    refine j_goto (tgt := 83) hc dX12_hurry_79 rfl ?_
    exact j_sub (tX12_hurry_b83 n d hc k8 hk8 _ _ _ _ _ _ _ _ hf) (And.intro rfl (And.intro rfl (And.intro rfl (And.intro rfl (And.intro rfl (And.intro rfl (trivial)))))))

set_option maxRecDepth 100000 in
def fX12_hurry_b67 (n d : Nat) (k8 : Int32 → Int32 → Int32 → Int32 → Int32 → am_I → am_L → Option (Int32 × am_I × am_L)) (a1 : Int32) (a2 : Int32) (a3 : Int32) (a4 : Int32) (a5 : Int32) (I : am_I) (L : am_L) : Option (Int32 × am_I × am_L) :=
  fX12_hurry_b68 n d k8 (-1 : Int32) a1 a2 a3 a4 a5 I L

set_option maxRecDepth 100000 in
set_option maxHeartbeats 4000000 in
theorem tX12_hurry_b67 {x : am_X} (n d : Nat) (hc : am_ok x cX12_hurry yX12_hurry 7 (some .int) (d + 3) 0 0) {r : Int32} {I' : am_I} {L' : am_L} (k8 : Int32 → Int32 → Int32 → Int32 → Int32 → am_I → am_L → Option (Int32 × am_I × am_L)) (hk8 : ∀ (a1 : Int32) (a2 : Int32) (a3 : Int32) (a4 : Int32) (a5 : Int32) (I : am_I) (L : am_L), k8 a1 a2 a3 a4 a5 I L = some (r, I', L') → am_J x (fun S => S = (some (.int r), KM, RM, I', L')) 8 [some (.ref 0), some (.int a1), some (.int a2), some (.int a3), some (.int a4), some (.int a5), none] [] KM RM I L 0 0) (a1 : Int32) (a2 : Int32) (a3 : Int32) (a4 : Int32) (a5 : Int32) (I : am_I) (L : am_L) (hf : fX12_hurry_b67 n d k8 a1 a2 a3 a4 a5 I L = some (r, I', L')) : am_J x (fun S => S = (some (.int r), KM, RM, I', L')) 67 [some (.ref 0), some (.int a1), some (.int a2), some (.int a3), some (.int a4), some (.int a5), none] [] KM RM I L 0 0 := by
  unfold fX12_hurry_b67 at hf
  refine j_iconst (v := (-1 : Int32)) hc dX12_hurry_67 ci_m1 ?_
  exact j_sub (tX12_hurry_b68 n d hc k8 hk8 _ _ _ _ _ _ _ _ hf) (And.intro rfl (And.intro rfl (And.intro rfl (And.intro rfl (And.intro rfl (And.intro rfl (trivial)))))))

set_option maxRecDepth 100000 in
def fX12_hurry_b8w (n d : Nat) (k8 : Int32 → Int32 → Int32 → Int32 → Int32 → am_I → am_L → Option (Int32 × am_I × am_L)) (a1 : Int32) (a2 : Int32) (a3 : Int32) (a4 : Int32) (a5 : Int32) (I : am_I) (L : am_L) : Option (Int32 × am_I × am_L) :=
  am_b3 (fX12_isSide n d a1 I L) (fun v1 I1 L1 => if v1 = 0 then
    (some (a3, I1, L1))
    else
    (am_b3 (fX12_in n d a2 (0 : Int32) (40 : Int32) I1 L1) (fun v2 I2 L2 => if v2 = 0 then
      (some (a3, I2, L2))
      else
      (if (I2 0 25) ≤ a5 then
        (some (a3, I2, L2))
        else
        (am_b3 (fX12_side n d a5 I2 L2) (fun v3 I3 L3 => if v3 = a1 then
          (am_ck ((0 : Int32) + a5) 206 (am_lt (I3 17 (((0 : Int32) + a5)).toNatClampNeg) (fun v4 => if v4 ≤ 0 then
            (fX12_hurry_b67 n d k8 a1 a2 a3 a4 a5 I3 L3)
            else
            (am_b3 (fX12_oddsOf n d a5 a2 I3 L3) (fun v5 I5 L5 => fX12_hurry_b68 n d k8 v5 a1 a2 a3 a4 a5 I5 L5)))))
          else
          (fX12_hurry_b67 n d k8 a1 a2 a3 a4 a5 I3 L3)))))))

set_option maxRecDepth 100000 in
set_option maxHeartbeats 4000000 in
theorem tX12_hurry_b8w {x : am_X} (n d : Nat) (hc : am_ok x cX12_hurry yX12_hurry 7 (some .int) (d + 3) 0 0) {r : Int32} {I' : am_I} {L' : am_L} (k8 : Int32 → Int32 → Int32 → Int32 → Int32 → am_I → am_L → Option (Int32 × am_I × am_L)) (hk8 : ∀ (a1 : Int32) (a2 : Int32) (a3 : Int32) (a4 : Int32) (a5 : Int32) (I : am_I) (L : am_L), k8 a1 a2 a3 a4 a5 I L = some (r, I', L') → am_J x (fun S => S = (some (.int r), KM, RM, I', L')) 8 [some (.ref 0), some (.int a1), some (.int a2), some (.int a3), some (.int a4), some (.int a5), none] [] KM RM I L 0 0) (a1 : Int32) (a2 : Int32) (a3 : Int32) (a4 : Int32) (a5 : Int32) (I : am_I) (L : am_L) (hf : fX12_hurry_b8w n d k8 a1 a2 a3 a4 a5 I L = some (r, I', L')) : am_J x (fun S => S = (some (.int r), KM, RM, I', L')) 8 [some (.ref 0), some (.int a1), some (.int a2), some (.int a3), some (.int a4), some (.int a5), none] [] KM RM I L 0 0 := by
  unfold fX12_hurry_b8w at hf
  refine j_aload_n hc dX12_hurry_8 rfl ?_
  refine j_iload_n hc dX12_hurry_9 rfl ?_
  refine j_callVI (t := 0) (As := [.int a1]) hc dX12_hurry_10 kw_1948 mX12_isSide kM_0 clX12 rfl (by omega) (Nat.le_of_ble_eq_true rfl) (Nat.le_of_ble_eq_true rfl) ⟨Nat.le_refl _, Nat.le_refl _⟩ hf (fun v I' L' h => qX12_isSide x.2.1 n d a1 I L v I' L' h) (fun v1 I1 L1 hf => ?_)
  refine j_if_eq (tgt := 99) hc dX12_hurry_13 rfl hf (fun hf => ?_) (fun hf => ?_)
  · refine j_iload_n hc dX12_hurry_99 rfl ?_
    exact j_ireturn hc dX12_hurry_100 rfl rfl hf
  · refine j_iload_n hc dX12_hurry_16 rfl ?_
    refine j_iconst (v := (0 : Int32)) hc dX12_hurry_17 ci_0 ?_
    refine j_bipush (v := (40 : Int32)) hc dX12_hurry_18 cb_40 ?_
    refine j_callSI (As := [.int a2, .int (0 : Int32), .int (40 : Int32)]) hc dX12_hurry_20 kw_1671 mX12_in  rfl (by omega) (Nat.le_of_ble_eq_true rfl) (Nat.le_of_ble_eq_true rfl) ⟨Nat.le_refl _, Nat.le_refl _⟩ hf (fun v I' L' h => qX12_in x.2.1 n d a2 (0 : Int32) (40 : Int32) I1 L1 v I' L' h) (fun v2 I2 L2 hf => ?_)
    refine j_if_eq (tgt := 99) hc dX12_hurry_23 rfl hf (fun hf => ?_) (fun hf => ?_)
    · refine j_iload_n hc dX12_hurry_99 rfl ?_
      exact j_ireturn hc dX12_hurry_100 rfl rfl hf
    · refine j_iload hc dX12_hurry_26 rfl ?_
      refine j_aload_n hc dX12_hurry_28 rfl ?_
      refine j_getI hc dX12_hurry_29 fgM_X12_250_0 ?_
      refine j_icmp_ge (tgt := 99) hc dX12_hurry_32 rfl hf (fun hf => ?_) (fun hf => ?_)
      · refine j_iload_n hc dX12_hurry_99 rfl ?_
        exact j_ireturn hc dX12_hurry_100 rfl rfl hf
      · refine j_aload_n hc dX12_hurry_35 rfl ?_
        refine j_iload hc dX12_hurry_36 rfl ?_
        refine j_callVI (t := 0) (As := [.int a5]) hc dX12_hurry_38 kw_1780 mX12_side kM_0 clX12 rfl (by omega) (Nat.le_of_ble_eq_true rfl) (Nat.le_of_ble_eq_true rfl) ⟨Nat.le_refl _, Nat.le_refl _⟩ hf (fun v I' L' h => qX12_side x.2.1 n d a5 I2 L2 v I' L' h) (fun v3 I3 L3 hf => ?_)
        refine j_iload_n hc dX12_hurry_41 rfl ?_
        refine j_icmp_ne (tgt := 67) hc dX12_hurry_42 rfl hf (fun hf => ?_) (fun hf => ?_)
        · exact j_sub (tX12_hurry_b67 n d hc k8 hk8 _ _ _ _ _ _ _ hf) (And.intro rfl (And.intro rfl (And.intro rfl (And.intro rfl (And.intro rfl (And.intro rfl (trivial)))))))
        · refine j_aload_n hc dX12_hurry_45 rfl ?_
          refine j_getR (u := 17) hc dX12_hurry_46 fgM_X12_58_0 rM_0_27 ?_
          refine j_iconst (v := (0 : Int32)) hc dX12_hurry_49 ci_0 ?_
          refine j_iload hc dX12_hurry_50 rfl ?_
          refine j_iadd hc dX12_hurry_52 ?_
          refine j_iaload (n := 206) hc dX12_hurry_53 kM_17 hf (fun v4 hf => ?_)
          refine j_if_le (tgt := 67) hc dX12_hurry_54 rfl hf (fun hf => ?_) (fun hf => ?_)
          · exact j_sub (tX12_hurry_b67 n d hc k8 hk8 _ _ _ _ _ _ _ hf) (And.intro rfl (And.intro rfl (And.intro rfl (And.intro rfl (And.intro rfl (And.intro rfl (trivial)))))))
          · refine j_aload_n hc dX12_hurry_57 rfl ?_
            refine j_iload hc dX12_hurry_58 rfl ?_
            refine j_iload_n hc dX12_hurry_60 rfl ?_
            refine j_callVI (t := 0) (As := [.int a5, .int a2]) hc dX12_hurry_61 kw_2097 mX12_oddsOf kM_0 clX12 rfl (by omega) (Nat.le_of_ble_eq_true rfl) (Nat.le_of_ble_eq_true rfl) ⟨Nat.le_refl _, Nat.le_refl _⟩ hf (fun v I' L' h => qX12_oddsOf x.2.1 n d a5 a2 I3 L3 v I' L' h) (fun v5 I5 L5 hf => ?_)
            refine j_goto (tgt := 68) hc dX12_hurry_64 rfl ?_
            exact j_sub (tX12_hurry_b68 n d hc k8 hk8 _ _ _ _ _ _ _ _ hf) (And.intro rfl (And.intro rfl (And.intro rfl (And.intro rfl (And.intro rfl (And.intro rfl (trivial)))))))

def fX12_hurry_b8 (n d : Nat) : Nat → Int32 → Int32 → Int32 → Int32 → Int32 → am_I → am_L → Option (Int32 × am_I × am_L)
  | 0 => fun _ _ _ _ _ _ _ => none
  | m + 1 => fX12_hurry_b8w n d  (fX12_hurry_b8 n d m)

set_option maxRecDepth 100000 in
theorem tX12_hurry_b8 {x : am_X} (n d : Nat) (hc : am_ok x cX12_hurry yX12_hurry 7 (some .int) (d + 3) 0 0) {r : Int32} {I' : am_I} {L' : am_L} (m : Nat) : ∀ (a1 : Int32) (a2 : Int32) (a3 : Int32) (a4 : Int32) (a5 : Int32) (I : am_I) (L : am_L) (hf : fX12_hurry_b8 n d m a1 a2 a3 a4 a5 I L = some (r, I', L')), am_J x (fun S => S = (some (.int r), KM, RM, I', L')) 8 [some (.ref 0), some (.int a1), some (.int a2), some (.int a3), some (.int a4), some (.int a5), none] [] KM RM I L 0 0 := by
  induction m with
  | zero => intro a1 a2 a3 a4 a5 I L hf; exact (Option.some_ne_none _ hf.symm).elim
  | succ m ih => intro a1 a2 a3 a4 a5 I L hf; exact tX12_hurry_b8w n d hc (fX12_hurry_b8 n d m) ih a1 a2 a3 a4 a5 I L hf

set_option maxRecDepth 100000 in
def fX12_hurry (n d : Nat) (a1 : Int32) (a2 : Int32) (I : am_I) (L : am_L) : Option (Int32 × am_I × am_L) :=
  am_lt (-1 : Int32) (fun v1 => am_lt (-1 : Int32) (fun v2 => am_lt (0 : Int32) (fun v3 => fX12_hurry_b8 n d n a1 a2 v1 v2 v3 I L)))

set_option maxRecDepth 100000 in
set_option maxHeartbeats 4000000 in
theorem tX12_hurry {x : am_X} (n d : Nat) (hc : am_ok x cX12_hurry yX12_hurry 7 (some .int) (d + 3) 0 0) {r : Int32} {I' : am_I} {L' : am_L} (a1 : Int32) (a2 : Int32) (I : am_I) (L : am_L) (hf : fX12_hurry n d a1 a2 I L = some (r, I', L')) : am_J x (fun S => S = (some (.int r), KM, RM, I', L')) 0 [some (.ref 0), some (.int a1), some (.int a2), none, none, none, none] [] KM RM I L 0 0 := by
  unfold fX12_hurry at hf
  refine j_iconst (v := (-1 : Int32)) hc dX12_hurry_0 ci_m1 ?_
  refine j_istore_n hc dX12_hurry_1 (Nat.le_of_ble_eq_true rfl) hf (fun v1 hf => ?_)
  refine j_iconst (v := (-1 : Int32)) hc dX12_hurry_2 ci_m1 ?_
  refine j_istore hc dX12_hurry_3 (Nat.le_of_ble_eq_true rfl) hf (fun v2 hf => ?_)
  refine j_iconst (v := (0 : Int32)) hc dX12_hurry_5 ci_0 ?_
  refine j_istore hc dX12_hurry_6 (Nat.le_of_ble_eq_true rfl) hf (fun v3 hf => ?_)
  exact j_sub (tX12_hurry_b8 n d hc n _ _ _ _ _ _ _ hf) (And.intro rfl (And.intro rfl (And.intro rfl (And.intro rfl (And.intro rfl (And.intro rfl (trivial)))))))

set_option maxRecDepth 100000 in
theorem qX12_hurry (l : Launch) (n d : Nat) (a1 : Int32) (a2 : Int32) (I : am_I) (L : am_L) (r : Int32) (I' : am_I) (L' : am_L) (hf : fX12_hurry n d a1 a2 I L = some (r, I', L')) : am_C l yX12_hurry cX12_hurry 7 (some .int) (d + 3) [.ref 0, .int a1, .int a2] KM RM I L (some (.int r)) I' L' := by
  exact am_intro (plainFor_of_name plX12) (fun _ _ => trivial) (Nat.le_of_ble_eq_true rfl) (fun x hl hc => by subst hl; exact j_sub (tX12_hurry n d hc _ _ _ _ hf) (And.intro rfl (And.intro rfl (And.intro rfl (trivial)))))
set_option maxRecDepth 100000 in
def fX12_behind (n d : Nat) (a1 : Int32) (I : am_I) (L : am_L) : Option (Int32 × am_I × am_L) :=
  am_b3 (fX12_isSide n d a1 I L) (fun v1 I1 L1 => if v1 = 0 then
    (some ((-1 : Int32), I1, L1))
    else
    (am_b3 (fX12_of n d a1 I1 L1) (fun v2 I2 L2 => am_b3 (fX12_atHome n d I2 L2) (fun v3 I3 L3 => some ((v2 &&& (v3 ^^^ (-1 : Int32))), I3, L3)))))

set_option maxRecDepth 100000 in
set_option maxHeartbeats 4000000 in
theorem tX12_behind {x : am_X} (n d : Nat) (hc : am_ok x cX12_behind yX12_behind 2 (some .int) (d + 9) 0 0) {r : Int32} {I' : am_I} {L' : am_L} (a1 : Int32) (I : am_I) (L : am_L) (hf : fX12_behind n d a1 I L = some (r, I', L')) : am_J x (fun S => S = (some (.int r), KM, RM, I', L')) 0 [some (.ref 0), some (.int a1)] [] KM RM I L 0 0 := by
  unfold fX12_behind at hf
  refine j_aload_n hc dX12_behind_0 rfl ?_
  refine j_iload_n hc dX12_behind_1 rfl ?_
  refine j_callVI (t := 0) (As := [.int a1]) hc dX12_behind_2 kw_1948 mX12_isSide kM_0 clX12 rfl (by omega) (Nat.le_of_ble_eq_true rfl) (Nat.le_of_ble_eq_true rfl) ⟨Nat.le_refl _, Nat.le_refl _⟩ hf (fun v I' L' h => qX12_isSide x.2.1 n d a1 I L v I' L' h) (fun v1 I1 L1 hf => ?_)
  refine j_if_eq (tgt := 23) hc dX12_behind_5 rfl hf (fun hf => ?_) (fun hf => ?_)
  · refine j_iconst (v := (-1 : Int32)) hc dX12_behind_23 ci_m1 ?_
    exact j_ireturn hc dX12_behind_24 rfl rfl hf
  · refine j_aload_n hc dX12_behind_8 rfl ?_
    refine j_iload_n hc dX12_behind_9 rfl ?_
    refine j_callVI (t := 0) (As := [.int a1]) hc dX12_behind_10 kw_1826 mX12_of kM_0 clX12 rfl (by omega) (Nat.le_of_ble_eq_true rfl) (Nat.le_of_ble_eq_true rfl) ⟨Nat.le_refl _, Nat.le_refl _⟩ hf (fun v I' L' h => qX12_of x.2.1 n d a1 I1 L1 v I' L' h) (fun v2 I2 L2 hf => ?_)
    refine j_aload_n hc dX12_behind_13 rfl ?_
    refine j_callVI (t := 0) (As := []) hc dX12_behind_14 kw_1822 mX12_atHome kM_0 clX12 rfl (by omega) (Nat.le_of_ble_eq_true rfl) (Nat.le_of_ble_eq_true rfl) ⟨Nat.le_refl _, Nat.le_refl _⟩ hf (fun v I' L' h => qX12_atHome x.2.1 n d I2 L2 v I' L' h) (fun v3 I3 L3 hf => ?_)
    refine j_iconst (v := (-1 : Int32)) hc dX12_behind_17 ci_m1 ?_
    refine j_ixor hc dX12_behind_18 ?_
    refine j_iand hc dX12_behind_19 ?_
    refine j_goto (tgt := 24) hc dX12_behind_20 rfl ?_
    exact j_ireturn hc dX12_behind_24 rfl rfl hf

set_option maxRecDepth 100000 in
theorem qX12_behind (l : Launch) (n d : Nat) (a1 : Int32) (I : am_I) (L : am_L) (r : Int32) (I' : am_I) (L' : am_L) (hf : fX12_behind n d a1 I L = some (r, I', L')) : am_C l yX12_behind cX12_behind 2 (some .int) (d + 9) [.ref 0, .int a1] KM RM I L (some (.int r)) I' L' := by
  exact am_intro (plainFor_of_name plX12) (fun _ _ => trivial) (Nat.le_of_ble_eq_true rfl) (fun x hl hc => by subst hl; exact j_sub (tX12_behind n d hc _ _ _ hf) (And.intro rfl (And.intro rfl (trivial))))
set_option maxRecDepth 100000 in
def fX12_next_b58 (n d : Nat) (k4 : Int32 → Int32 → Int32 → am_I → am_L → Option (Int32 × am_I × am_L)) (s0 : Int32) (a1 : Int32) (a3 : Int32) (I : am_I) (L : am_L) : Option (Int32 × am_I × am_L) :=
  am_lt s0 (fun v1 => am_lt (a3 + (1 : Int32)) (fun v2 => k4 a1 v1 v2 I L))

set_option maxRecDepth 100000 in
set_option maxHeartbeats 4000000 in
theorem tX12_next_b58 {x : am_X} (n d : Nat) (hc : am_ok x cX12_next yX12_next 4 (some .int) (d + 3) 0 0) {r : Int32} {I' : am_I} {L' : am_L} (k4 : Int32 → Int32 → Int32 → am_I → am_L → Option (Int32 × am_I × am_L)) (hk4 : ∀ (a1 : Int32) (a2 : Int32) (a3 : Int32) (I : am_I) (L : am_L), k4 a1 a2 a3 I L = some (r, I', L') → am_J x (fun S => S = (some (.int r), KM, RM, I', L')) 4 [some (.ref 0), some (.int a1), some (.int a2), some (.int a3)] [] KM RM I L 0 0) (s0 : Int32) (a1 : Int32) (a3 : Int32) (I : am_I) (L : am_L) (hf : fX12_next_b58 n d k4 s0 a1 a3 I L = some (r, I', L')) : am_J x (fun S => S = (some (.int r), KM, RM, I', L')) 58 [some (.ref 0), some (.int a1), none, some (.int a3)] [.int s0] KM RM I L 0 0 := by
  unfold fX12_next_b58 at hf
  refine j_istore_n hc dX12_next_58 (Nat.le_of_ble_eq_true rfl) hf (fun v1 hf => ?_)
  refine j_iinc (w := (1 : Int32)) hc dX12_next_59 rfl ci_1 (Nat.le_of_ble_eq_true rfl) hf (fun v2 hf => ?_)
  refine j_goto (tgt := 4) hc dX12_next_62 rfl ?_
  exact j_sub (hk4 _ _ _ _ _ hf) (And.intro rfl (And.intro rfl (And.intro rfl (And.intro rfl (trivial)))))

set_option maxRecDepth 100000 in
def fX12_next_b57 (n d : Nat) (k4 : Int32 → Int32 → Int32 → am_I → am_L → Option (Int32 × am_I × am_L)) (a1 : Int32) (a2 : Int32) (a3 : Int32) (I : am_I) (L : am_L) : Option (Int32 × am_I × am_L) :=
  fX12_next_b58 n d k4 a2 a1 a3 I L

set_option maxRecDepth 100000 in
set_option maxHeartbeats 4000000 in
theorem tX12_next_b57 {x : am_X} (n d : Nat) (hc : am_ok x cX12_next yX12_next 4 (some .int) (d + 3) 0 0) {r : Int32} {I' : am_I} {L' : am_L} (k4 : Int32 → Int32 → Int32 → am_I → am_L → Option (Int32 × am_I × am_L)) (hk4 : ∀ (a1 : Int32) (a2 : Int32) (a3 : Int32) (I : am_I) (L : am_L), k4 a1 a2 a3 I L = some (r, I', L') → am_J x (fun S => S = (some (.int r), KM, RM, I', L')) 4 [some (.ref 0), some (.int a1), some (.int a2), some (.int a3)] [] KM RM I L 0 0) (a1 : Int32) (a2 : Int32) (a3 : Int32) (I : am_I) (L : am_L) (hf : fX12_next_b57 n d k4 a1 a2 a3 I L = some (r, I', L')) : am_J x (fun S => S = (some (.int r), KM, RM, I', L')) 57 [some (.ref 0), some (.int a1), some (.int a2), some (.int a3)] [] KM RM I L 0 0 := by
  unfold fX12_next_b57 at hf
  refine j_iload_n hc dX12_next_57 rfl ?_
  exact j_sub (tX12_next_b58 n d hc k4 hk4 _ _ _ _ _ hf) (And.intro rfl (And.intro rfl (And.intro rfl (trivial))))

set_option maxRecDepth 100000 in
def fX12_next_b53 (n d : Nat) (k4 : Int32 → Int32 → Int32 → am_I → am_L → Option (Int32 × am_I × am_L)) (a1 : Int32) (a3 : Int32) (I : am_I) (L : am_L) : Option (Int32 × am_I × am_L) :=
  fX12_next_b58 n d k4 a3 a1 a3 I L

set_option maxRecDepth 100000 in
set_option maxHeartbeats 4000000 in
theorem tX12_next_b53 {x : am_X} (n d : Nat) (hc : am_ok x cX12_next yX12_next 4 (some .int) (d + 3) 0 0) {r : Int32} {I' : am_I} {L' : am_L} (k4 : Int32 → Int32 → Int32 → am_I → am_L → Option (Int32 × am_I × am_L)) (hk4 : ∀ (a1 : Int32) (a2 : Int32) (a3 : Int32) (I : am_I) (L : am_L), k4 a1 a2 a3 I L = some (r, I', L') → am_J x (fun S => S = (some (.int r), KM, RM, I', L')) 4 [some (.ref 0), some (.int a1), some (.int a2), some (.int a3)] [] KM RM I L 0 0) (a1 : Int32) (a3 : Int32) (I : am_I) (L : am_L) (hf : fX12_next_b53 n d k4 a1 a3 I L = some (r, I', L')) : am_J x (fun S => S = (some (.int r), KM, RM, I', L')) 53 [some (.ref 0), some (.int a1), none, some (.int a3)] [] KM RM I L 0 0 := by
  unfold fX12_next_b53 at hf
  refine j_iload_n hc dX12_next_53 rfl ?_
  refine j_goto (tgt := 58) hc dX12_next_54 rfl ?_
  exact j_sub (tX12_next_b58 n d hc k4 hk4 _ _ _ _ _ hf) (And.intro rfl (And.intro rfl (And.intro rfl (trivial))))

set_option maxRecDepth 100000 in
def fX12_next_b4w (n d : Nat) (k4 : Int32 → Int32 → Int32 → am_I → am_L → Option (Int32 × am_I × am_L)) (a1 : Int32) (a2 : Int32) (a3 : Int32) (I : am_I) (L : am_L) : Option (Int32 × am_I × am_L) :=
  am_b3 (fX12_isMan n d a1 I L) (fun v1 I1 L1 => if v1 = 0 then
    (some (a2, I1, L1))
    else
    (if (I1 0 26) ≤ a3 then
      (some (a2, I1, L1))
      else
      (am_b3 (fX12_isAhead n d a1 a3 I1 L1) (fun v2 I2 L2 => if v2 = 0 then
        (fX12_next_b57 n d k4 a1 a2 a3 I2 L2)
        else
        (if a2 = (-1 : Int32) then
          (fX12_next_b53 n d k4 a1 a3 I2 L2)
          else
          (am_ck ((2 : Int32) * a3) 12 (am_lt (I2 15 (((2 : Int32) * a3)).toNatClampNeg) (fun v3 => am_ck ((2 : Int32) * a2) 12 (am_lt (I2 15 (((2 : Int32) * a2)).toNatClampNeg) (fun v4 => if v3 ≤ v4 then
            (fX12_next_b57 n d k4 a1 a2 a3 I2 L2)
            else
            (fX12_next_b53 n d k4 a1 a3 I2 L2)))))))))))

set_option maxRecDepth 100000 in
set_option maxHeartbeats 4000000 in
theorem tX12_next_b4w {x : am_X} (n d : Nat) (hc : am_ok x cX12_next yX12_next 4 (some .int) (d + 3) 0 0) {r : Int32} {I' : am_I} {L' : am_L} (k4 : Int32 → Int32 → Int32 → am_I → am_L → Option (Int32 × am_I × am_L)) (hk4 : ∀ (a1 : Int32) (a2 : Int32) (a3 : Int32) (I : am_I) (L : am_L), k4 a1 a2 a3 I L = some (r, I', L') → am_J x (fun S => S = (some (.int r), KM, RM, I', L')) 4 [some (.ref 0), some (.int a1), some (.int a2), some (.int a3)] [] KM RM I L 0 0) (a1 : Int32) (a2 : Int32) (a3 : Int32) (I : am_I) (L : am_L) (hf : fX12_next_b4w n d k4 a1 a2 a3 I L = some (r, I', L')) : am_J x (fun S => S = (some (.int r), KM, RM, I', L')) 4 [some (.ref 0), some (.int a1), some (.int a2), some (.int a3)] [] KM RM I L 0 0 := by
  unfold fX12_next_b4w at hf
  refine j_aload_n hc dX12_next_4 rfl ?_
  refine j_iload_n hc dX12_next_5 rfl ?_
  refine j_callVI (t := 0) (As := [.int a1]) hc dX12_next_6 kw_1768 mX12_isMan kM_0 clX12 rfl (by omega) (Nat.le_of_ble_eq_true rfl) (Nat.le_of_ble_eq_true rfl) ⟨Nat.le_refl _, Nat.le_refl _⟩ hf (fun v I' L' h => qX12_isMan x.2.1 n d a1 I L v I' L' h) (fun v1 I1 L1 hf => ?_)
  refine j_if_eq (tgt := 65) hc dX12_next_9 rfl hf (fun hf => ?_) (fun hf => ?_)
  · refine j_iload_n hc dX12_next_65 rfl ?_
    exact j_ireturn hc dX12_next_66 rfl rfl hf
  · refine j_iload_n hc dX12_next_12 rfl ?_
    refine j_aload_n hc dX12_next_13 rfl ?_
    refine j_getI hc dX12_next_14 fgM_X12_253_0 ?_
    refine j_icmp_ge (tgt := 65) hc dX12_next_17 rfl hf (fun hf => ?_) (fun hf => ?_)
    · refine j_iload_n hc dX12_next_65 rfl ?_
      exact j_ireturn hc dX12_next_66 rfl rfl hf
    · refine j_aload_n hc dX12_next_20 rfl ?_
      refine j_iload_n hc dX12_next_21 rfl ?_
      refine j_iload_n hc dX12_next_22 rfl ?_
      refine j_callVI (t := 0) (As := [.int a1, .int a3]) hc dX12_next_23 kw_2006 mX12_isAhead kM_0 clX12 rfl (by omega) (Nat.le_of_ble_eq_true rfl) (Nat.le_of_ble_eq_true rfl) ⟨Nat.le_refl _, Nat.le_refl _⟩ hf (fun v I' L' h => qX12_isAhead x.2.1 n d a1 a3 I1 L1 v I' L' h) (fun v2 I2 L2 hf => ?_)
      refine j_if_eq (tgt := 57) hc dX12_next_26 rfl hf (fun hf => ?_) (fun hf => ?_)
      · exact j_sub (tX12_next_b57 n d hc k4 hk4 _ _ _ _ _ hf) (And.intro rfl (And.intro rfl (And.intro rfl (And.intro rfl (trivial)))))
      · refine j_iload_n hc dX12_next_29 rfl ?_
        refine j_iconst (v := (-1 : Int32)) hc dX12_next_30 ci_m1 ?_
        refine j_icmp_eq (tgt := 53) hc dX12_next_31 rfl hf (fun hf => ?_) (fun hf => ?_)
        · exact j_sub (tX12_next_b53 n d hc k4 hk4 _ _ _ _ hf) (And.intro rfl (And.intro rfl (And.intro rfl (trivial))))
        · refine j_aload_n hc dX12_next_34 rfl ?_
          refine j_getR (u := 15) hc dX12_next_35 fgM_X12_52_0 rM_0_23 ?_
          refine j_iconst (v := (2 : Int32)) hc dX12_next_38 ci_2 ?_
          refine j_iload_n hc dX12_next_39 rfl ?_
          refine j_imul hc dX12_next_40 ?_
          refine j_iaload (n := 12) hc dX12_next_41 kM_15 hf (fun v3 hf => ?_)
          refine j_aload_n hc dX12_next_42 rfl ?_
          refine j_getR (u := 15) hc dX12_next_43 fgM_X12_52_0 rM_0_23 ?_
          refine j_iconst (v := (2 : Int32)) hc dX12_next_46 ci_2 ?_
          refine j_iload_n hc dX12_next_47 rfl ?_
          refine j_imul hc dX12_next_48 ?_
          refine j_iaload (n := 12) hc dX12_next_49 kM_15 hf (fun v4 hf => ?_)
          refine j_icmp_le (tgt := 57) hc dX12_next_50 rfl hf (fun hf => ?_) (fun hf => ?_)
          · exact j_sub (tX12_next_b57 n d hc k4 hk4 _ _ _ _ _ hf) (And.intro rfl (And.intro rfl (And.intro rfl (And.intro rfl (trivial)))))
          · exact j_sub (tX12_next_b53 n d hc k4 hk4 _ _ _ _ hf) (And.intro rfl (And.intro rfl (And.intro rfl (trivial))))

def fX12_next_b4 (n d : Nat) : Nat → Int32 → Int32 → Int32 → am_I → am_L → Option (Int32 × am_I × am_L)
  | 0 => fun _ _ _ _ _ => none
  | m + 1 => fX12_next_b4w n d  (fX12_next_b4 n d m)

set_option maxRecDepth 100000 in
theorem tX12_next_b4 {x : am_X} (n d : Nat) (hc : am_ok x cX12_next yX12_next 4 (some .int) (d + 3) 0 0) {r : Int32} {I' : am_I} {L' : am_L} (m : Nat) : ∀ (a1 : Int32) (a2 : Int32) (a3 : Int32) (I : am_I) (L : am_L) (hf : fX12_next_b4 n d m a1 a2 a3 I L = some (r, I', L')), am_J x (fun S => S = (some (.int r), KM, RM, I', L')) 4 [some (.ref 0), some (.int a1), some (.int a2), some (.int a3)] [] KM RM I L 0 0 := by
  induction m with
  | zero => intro a1 a2 a3 I L hf; exact (Option.some_ne_none _ hf.symm).elim
  | succ m ih => intro a1 a2 a3 I L hf; exact tX12_next_b4w n d hc (fX12_next_b4 n d m) ih a1 a2 a3 I L hf

set_option maxRecDepth 100000 in
def fX12_next (n d : Nat) (a1 : Int32) (I : am_I) (L : am_L) : Option (Int32 × am_I × am_L) :=
  am_lt (-1 : Int32) (fun v1 => am_lt (0 : Int32) (fun v2 => fX12_next_b4 n d n a1 v1 v2 I L))

set_option maxRecDepth 100000 in
set_option maxHeartbeats 4000000 in
theorem tX12_next {x : am_X} (n d : Nat) (hc : am_ok x cX12_next yX12_next 4 (some .int) (d + 3) 0 0) {r : Int32} {I' : am_I} {L' : am_L} (a1 : Int32) (I : am_I) (L : am_L) (hf : fX12_next n d a1 I L = some (r, I', L')) : am_J x (fun S => S = (some (.int r), KM, RM, I', L')) 0 [some (.ref 0), some (.int a1), none, none] [] KM RM I L 0 0 := by
  unfold fX12_next at hf
  refine j_iconst (v := (-1 : Int32)) hc dX12_next_0 ci_m1 ?_
  refine j_istore_n hc dX12_next_1 (Nat.le_of_ble_eq_true rfl) hf (fun v1 hf => ?_)
  refine j_iconst (v := (0 : Int32)) hc dX12_next_2 ci_0 ?_
  refine j_istore_n hc dX12_next_3 (Nat.le_of_ble_eq_true rfl) hf (fun v2 hf => ?_)
  exact j_sub (tX12_next_b4 n d hc n _ _ _ _ _ hf) (And.intro rfl (And.intro rfl (And.intro rfl (And.intro rfl (trivial)))))

set_option maxRecDepth 100000 in
theorem qX12_next (l : Launch) (n d : Nat) (a1 : Int32) (I : am_I) (L : am_L) (r : Int32) (I' : am_I) (L' : am_L) (hf : fX12_next n d a1 I L = some (r, I', L')) : am_C l yX12_next cX12_next 4 (some .int) (d + 3) [.ref 0, .int a1] KM RM I L (some (.int r)) I' L' := by
  exact am_intro (plainFor_of_name plX12) (fun _ _ => trivial) (Nat.le_of_ble_eq_true rfl) (fun x hl hc => by subst hl; exact j_sub (tX12_next n d hc _ _ _ hf) (And.intro rfl (And.intro rfl (trivial))))
set_option maxRecDepth 100000 in
def fX12_last (n d : Nat) (I : am_I) (L : am_L) : Option (Int32 × am_I × am_L) :=
  am_b3 (fX12_farthest n d (-1 : Int32) I L) (fun v1 I1 L1 => some (v1, I1, L1))

set_option maxRecDepth 100000 in
set_option maxHeartbeats 4000000 in
theorem tX12_last {x : am_X} (n d : Nat) (hc : am_ok x cX12_last yX12_last 1 (some .int) (d + 3) 0 0) {r : Int32} {I' : am_I} {L' : am_L} (I : am_I) (L : am_L) (hf : fX12_last n d I L = some (r, I', L')) : am_J x (fun S => S = (some (.int r), KM, RM, I', L')) 0 [some (.ref 0)] [] KM RM I L 0 0 := by
  unfold fX12_last at hf
  refine j_aload_n hc dX12_last_0 rfl ?_
  refine j_iconst (v := (-1 : Int32)) hc dX12_last_1 ci_m1 ?_
  refine j_callVI (t := 0) (As := [.int (-1 : Int32)]) hc dX12_last_2 kw_2018 mX12_farthest kM_0 clX12 rfl (by omega) (Nat.le_of_ble_eq_true rfl) (Nat.le_of_ble_eq_true rfl) ⟨Nat.le_refl _, Nat.le_refl _⟩ hf (fun v I' L' h => qX12_farthest x.2.1 n d (-1 : Int32) I L v I' L' h) (fun v1 I1 L1 hf => ?_)
  exact j_ireturn hc dX12_last_5 rfl rfl hf

set_option maxRecDepth 100000 in
theorem qX12_last (l : Launch) (n d : Nat) (I : am_I) (L : am_L) (r : Int32) (I' : am_I) (L' : am_L) (hf : fX12_last n d I L = some (r, I', L')) : am_C l yX12_last cX12_last 1 (some .int) (d + 3) [.ref 0] KM RM I L (some (.int r)) I' L' := by
  exact am_intro (plainFor_of_name plX12) (fun _ _ => trivial) (Nat.le_of_ble_eq_true rfl) (fun x hl hc => by subst hl; exact j_sub (tX12_last n d hc  _ _ hf) (And.intro rfl (trivial)))
set_option maxRecDepth 100000 in
def fX12_even_b50 (n d : Nat) (k13 : Int32 → Int32 → am_I → am_L → Option (Int32 × am_I × am_L)) (s0 : Int32) (s1 : Int32) (a2 : Int32) (I : am_I) (L : am_L) : Option (Int32 × am_I × am_L) :=
  am_lt (s0 + s1) (fun v1 => am_lt (a2 + (1 : Int32)) (fun v2 => k13 v1 v2 I L))

set_option maxRecDepth 100000 in
set_option maxHeartbeats 4000000 in
theorem tX12_even_b50 {x : am_X} (n d : Nat) (hc : am_ok x cX12_even yX12_even 3 (some .int) (d + 2) 0 0) {r : Int32} {I' : am_I} {L' : am_L} (k13 : Int32 → Int32 → am_I → am_L → Option (Int32 × am_I × am_L)) (hk13 : ∀ (a1 : Int32) (a2 : Int32) (I : am_I) (L : am_L), k13 a1 a2 I L = some (r, I', L') → am_J x (fun S => S = (some (.int r), KM, RM, I', L')) 13 [some (.ref 0), some (.int a1), some (.int a2)] [] KM RM I L 0 0) (s0 : Int32) (s1 : Int32) (a2 : Int32) (I : am_I) (L : am_L) (hf : fX12_even_b50 n d k13 s0 s1 a2 I L = some (r, I', L')) : am_J x (fun S => S = (some (.int r), KM, RM, I', L')) 50 [some (.ref 0), none, some (.int a2)] [.int s1, .int s0] KM RM I L 0 0 := by
  unfold fX12_even_b50 at hf
  refine j_iadd hc dX12_even_50 ?_
  refine j_istore_n hc dX12_even_51 (Nat.le_of_ble_eq_true rfl) hf (fun v1 hf => ?_)
  refine j_iinc (w := (1 : Int32)) hc dX12_even_52 rfl ci_1 (Nat.le_of_ble_eq_true rfl) hf (fun v2 hf => ?_)
  refine j_goto (tgt := 13) hc dX12_even_55 rfl ?_
  exact j_sub (hk13 _ _ _ _ hf) (And.intro rfl (And.intro rfl (And.intro rfl (trivial))))

set_option maxRecDepth 100000 in
def fX12_even_b13w (n d : Nat) (k13 : Int32 → Int32 → am_I → am_L → Option (Int32 × am_I × am_L)) (a1 : Int32) (a2 : Int32) (I : am_I) (L : am_L) : Option (Int32 × am_I × am_L) :=
  if (I 0 25) ≤ a2 then
    (if a1 = 0 then
      (some ((1 : Int32), I, L))
      else
      (some ((0 : Int32), I, L)))
    else
    (am_b3 (fX12_side n d a2 I L) (fun v1 I1 L1 => if v1 = 0 then
      (am_ck ((0 : Int32) + a2) 206 (am_lt (I1 17 (((0 : Int32) + a2)).toNatClampNeg) (fun v3 => fX12_even_b50 n d k13 a1 v3 a2 I1 L1)))
      else
      (am_ck ((0 : Int32) + a2) 206 (am_lt (I1 17 (((0 : Int32) + a2)).toNatClampNeg) (fun v2 => fX12_even_b50 n d k13 a1 (-v2) a2 I1 L1)))))

set_option maxRecDepth 100000 in
set_option maxHeartbeats 4000000 in
theorem tX12_even_b13w {x : am_X} (n d : Nat) (hc : am_ok x cX12_even yX12_even 3 (some .int) (d + 2) 0 0) {r : Int32} {I' : am_I} {L' : am_L} (k13 : Int32 → Int32 → am_I → am_L → Option (Int32 × am_I × am_L)) (hk13 : ∀ (a1 : Int32) (a2 : Int32) (I : am_I) (L : am_L), k13 a1 a2 I L = some (r, I', L') → am_J x (fun S => S = (some (.int r), KM, RM, I', L')) 13 [some (.ref 0), some (.int a1), some (.int a2)] [] KM RM I L 0 0) (a1 : Int32) (a2 : Int32) (I : am_I) (L : am_L) (hf : fX12_even_b13w n d k13 a1 a2 I L = some (r, I', L')) : am_J x (fun S => S = (some (.int r), KM, RM, I', L')) 13 [some (.ref 0), some (.int a1), some (.int a2)] [] KM RM I L 0 0 := by
  unfold fX12_even_b13w at hf
  refine j_iload_n hc dX12_even_13 rfl ?_
  refine j_aload_n hc dX12_even_14 rfl ?_
  refine j_getI hc dX12_even_15 fgM_X12_250_0 ?_
  refine j_icmp_ge (tgt := 58) hc dX12_even_18 rfl hf (fun hf => ?_) (fun hf => ?_)
  · refine j_iload_n hc dX12_even_58 rfl ?_
    refine j_if_ne (tgt := 66) hc dX12_even_59 rfl hf (fun hf => ?_) (fun hf => ?_)
    · refine j_iconst (v := (0 : Int32)) hc dX12_even_66 ci_0 ?_
      exact j_ireturn hc dX12_even_67 rfl rfl hf
    · refine j_iconst (v := (1 : Int32)) hc dX12_even_62 ci_1 ?_
      refine j_goto (tgt := 67) hc dX12_even_63 rfl ?_
      exact j_ireturn hc dX12_even_67 rfl rfl hf
  · refine j_iload_n hc dX12_even_21 rfl ?_
    refine j_aload_n hc dX12_even_22 rfl ?_
    refine j_iload_n hc dX12_even_23 rfl ?_
    refine j_callVI (t := 0) (As := [.int a2]) hc dX12_even_24 kw_1780 mX12_side kM_0 clX12 rfl (by omega) (Nat.le_of_ble_eq_true rfl) (Nat.le_of_ble_eq_true rfl) ⟨Nat.le_refl _, Nat.le_refl _⟩ hf (fun v I' L' h => qX12_side x.2.1 n d a2 I L v I' L' h) (fun v1 I1 L1 hf => ?_)
    refine j_if_ne (tgt := 41) hc dX12_even_27 rfl hf (fun hf => ?_) (fun hf => ?_)
    · refine j_aload_n hc dX12_even_41 rfl ?_
      refine j_getR (u := 17) hc dX12_even_42 fgM_X12_58_0 rM_0_27 ?_
      refine j_iconst (v := (0 : Int32)) hc dX12_even_45 ci_0 ?_
      refine j_iload_n hc dX12_even_46 rfl ?_
      refine j_iadd hc dX12_even_47 ?_
      refine j_iaload (n := 206) hc dX12_even_48 kM_17 hf (fun v2 hf => ?_)
      refine j_ineg hc dX12_even_49 ?_
      exact j_sub (tX12_even_b50 n d hc k13 hk13 _ _ _ _ _ hf) (And.intro rfl (And.intro rfl (trivial)))
    · refine j_aload_n hc dX12_even_30 rfl ?_
      refine j_getR (u := 17) hc dX12_even_31 fgM_X12_58_0 rM_0_27 ?_
      refine j_iconst (v := (0 : Int32)) hc dX12_even_34 ci_0 ?_
      refine j_iload_n hc dX12_even_35 rfl ?_
      refine j_iadd hc dX12_even_36 ?_
      refine j_iaload (n := 206) hc dX12_even_37 kM_17 hf (fun v3 hf => ?_)
      refine j_goto (tgt := 50) hc dX12_even_38 rfl ?_
      exact j_sub (tX12_even_b50 n d hc k13 hk13 _ _ _ _ _ hf) (And.intro rfl (And.intro rfl (trivial)))

def fX12_even_b13 (n d : Nat) : Nat → Int32 → Int32 → am_I → am_L → Option (Int32 × am_I × am_L)
  | 0 => fun _ _ _ _ => none
  | m + 1 => fX12_even_b13w n d  (fX12_even_b13 n d m)

set_option maxRecDepth 100000 in
theorem tX12_even_b13 {x : am_X} (n d : Nat) (hc : am_ok x cX12_even yX12_even 3 (some .int) (d + 2) 0 0) {r : Int32} {I' : am_I} {L' : am_L} (m : Nat) : ∀ (a1 : Int32) (a2 : Int32) (I : am_I) (L : am_L) (hf : fX12_even_b13 n d m a1 a2 I L = some (r, I', L')), am_J x (fun S => S = (some (.int r), KM, RM, I', L')) 13 [some (.ref 0), some (.int a1), some (.int a2)] [] KM RM I L 0 0 := by
  induction m with
  | zero => intro a1 a2 I L hf; exact (Option.some_ne_none _ hf.symm).elim
  | succ m ih => intro a1 a2 I L hf; exact tX12_even_b13w n d hc (fX12_even_b13 n d m) ih a1 a2 I L hf

set_option maxRecDepth 100000 in
def fX12_even (n d : Nat) (I : am_I) (L : am_L) : Option (Int32 × am_I × am_L) :=
  if (I 0 25) = 0 then
    (some ((-1 : Int32), I, L))
    else
    (am_lt (0 : Int32) (fun v1 => am_lt (0 : Int32) (fun v2 => fX12_even_b13 n d n v1 v2 I L)))

set_option maxRecDepth 100000 in
set_option maxHeartbeats 4000000 in
theorem tX12_even {x : am_X} (n d : Nat) (hc : am_ok x cX12_even yX12_even 3 (some .int) (d + 2) 0 0) {r : Int32} {I' : am_I} {L' : am_L} (I : am_I) (L : am_L) (hf : fX12_even n d I L = some (r, I', L')) : am_J x (fun S => S = (some (.int r), KM, RM, I', L')) 0 [some (.ref 0), none, none] [] KM RM I L 0 0 := by
  unfold fX12_even at hf
  refine j_aload_n hc dX12_even_0 rfl ?_
  refine j_getI hc dX12_even_1 fgM_X12_250_0 ?_
  refine j_if_ne (tgt := 9) hc dX12_even_4 rfl hf (fun hf => ?_) (fun hf => ?_)
  · refine j_iconst (v := (0 : Int32)) hc dX12_even_9 ci_0 ?_
    refine j_istore_n hc dX12_even_10 (Nat.le_of_ble_eq_true rfl) hf (fun v1 hf => ?_)
    refine j_iconst (v := (0 : Int32)) hc dX12_even_11 ci_0 ?_
    refine j_istore_n hc dX12_even_12 (Nat.le_of_ble_eq_true rfl) hf (fun v2 hf => ?_)
    exact j_sub (tX12_even_b13 n d hc n _ _ _ _ hf) (And.intro rfl (And.intro rfl (And.intro rfl (trivial))))
  · refine j_iconst (v := (-1 : Int32)) hc dX12_even_7 ci_m1 ?_
    exact j_ireturn hc dX12_even_8 rfl rfl hf

set_option maxRecDepth 100000 in
theorem qX12_even (l : Launch) (n d : Nat) (I : am_I) (L : am_L) (r : Int32) (I' : am_I) (L' : am_L) (hf : fX12_even n d I L = some (r, I', L')) : am_C l yX12_even cX12_even 3 (some .int) (d + 2) [.ref 0] KM RM I L (some (.int r)) I' L' := by
  exact am_intro (plainFor_of_name plX12) (fun _ _ => trivial) (Nat.le_of_ble_eq_true rfl) (fun x hl hc => by subst hl; exact j_sub (tX12_even n d hc  _ _ hf) (And.intro rfl (trivial)))
set_option maxRecDepth 100000 in
def fX12_treaty_b78 (n d : Nat) (k53 : Int32 → Int32 → Int32 → Int32 → Int32 → am_I → am_L → Option (Int32 × am_I × am_L)) (s0 : Int32) (a1 : Int32) (a2 : Int32) (a3 : Int32) (a4 : Int32) (a5 : Int32) (I : am_I) (L : am_L) : Option (Int32 × am_I × am_L) :=
  if s0 = a3 then
    (am_lt (a5 + (1 : Int32)) (fun v1 => k53 a1 a2 a3 a4 v1 I L))
    else
    (some (a5, I, L))

set_option maxRecDepth 100000 in
set_option maxHeartbeats 4000000 in
theorem tX12_treaty_b78 {x : am_X} (n d : Nat) (hc : am_ok x cX12_treaty yX12_treaty 6 (some .int) (d + 4) 0 0) {r : Int32} {I' : am_I} {L' : am_L} (k53 : Int32 → Int32 → Int32 → Int32 → Int32 → am_I → am_L → Option (Int32 × am_I × am_L)) (hk53 : ∀ (a1 : Int32) (a2 : Int32) (a3 : Int32) (a4 : Int32) (a5 : Int32) (I : am_I) (L : am_L), k53 a1 a2 a3 a4 a5 I L = some (r, I', L') → am_J x (fun S => S = (some (.int r), KM, RM, I', L')) 53 [some (.ref 0), some (.int a1), some (.int a2), some (.int a3), some (.int a4), some (.int a5)] [] KM RM I L 0 0) (s0 : Int32) (a1 : Int32) (a2 : Int32) (a3 : Int32) (a4 : Int32) (a5 : Int32) (I : am_I) (L : am_L) (hf : fX12_treaty_b78 n d k53 s0 a1 a2 a3 a4 a5 I L = some (r, I', L')) : am_J x (fun S => S = (some (.int r), KM, RM, I', L')) 78 [some (.ref 0), some (.int a1), some (.int a2), some (.int a3), some (.int a4), some (.int a5)] [.int s0] KM RM I L 0 0 := by
  unfold fX12_treaty_b78 at hf
  refine j_iload_n hc dX12_treaty_78 rfl ?_
  refine j_icmp_ne (tgt := 88) hc dX12_treaty_79 rfl hf (fun hf => ?_) (fun hf => ?_)
  · refine j_iload hc dX12_treaty_88 rfl ?_
    exact j_ireturn hc dX12_treaty_90 rfl rfl hf
  · refine j_iinc (w := (1 : Int32)) hc dX12_treaty_82 rfl ci_1 (Nat.le_of_ble_eq_true rfl) hf (fun v1 hf => ?_)
    refine j_goto (tgt := 53) hc dX12_treaty_85 rfl ?_
    exact j_sub (hk53 _ _ _ _ _ _ _ hf) (And.intro rfl (And.intro rfl (And.intro rfl (And.intro rfl (And.intro rfl (And.intro rfl (trivial)))))))

set_option maxRecDepth 100000 in
def fX12_treaty_b53w (n d : Nat) (k53 : Int32 → Int32 → Int32 → Int32 → Int32 → am_I → am_L → Option (Int32 × am_I × am_L)) (a1 : Int32) (a2 : Int32) (a3 : Int32) (a4 : Int32) (a5 : Int32) (I : am_I) (L : am_L) : Option (Int32 × am_I × am_L) :=
  if a4 ≤ a5 then
    (some (a5, I, L))
    else
    (am_b3 (fX12_duelWith n d a1 a2 (a5 + (1 : Int32)) I L) (fun v1 I1 L1 => if v1 ≤ 0 then
      (fX12_treaty_b78 n d k53 (0 : Int32) a1 a2 a3 a4 a5 I1 L1)
      else
      (fX12_treaty_b78 n d k53 (1 : Int32) a1 a2 a3 a4 a5 I1 L1)))

set_option maxRecDepth 100000 in
set_option maxHeartbeats 4000000 in
theorem tX12_treaty_b53w {x : am_X} (n d : Nat) (hc : am_ok x cX12_treaty yX12_treaty 6 (some .int) (d + 4) 0 0) {r : Int32} {I' : am_I} {L' : am_L} (k53 : Int32 → Int32 → Int32 → Int32 → Int32 → am_I → am_L → Option (Int32 × am_I × am_L)) (hk53 : ∀ (a1 : Int32) (a2 : Int32) (a3 : Int32) (a4 : Int32) (a5 : Int32) (I : am_I) (L : am_L), k53 a1 a2 a3 a4 a5 I L = some (r, I', L') → am_J x (fun S => S = (some (.int r), KM, RM, I', L')) 53 [some (.ref 0), some (.int a1), some (.int a2), some (.int a3), some (.int a4), some (.int a5)] [] KM RM I L 0 0) (a1 : Int32) (a2 : Int32) (a3 : Int32) (a4 : Int32) (a5 : Int32) (I : am_I) (L : am_L) (hf : fX12_treaty_b53w n d k53 a1 a2 a3 a4 a5 I L = some (r, I', L')) : am_J x (fun S => S = (some (.int r), KM, RM, I', L')) 53 [some (.ref 0), some (.int a1), some (.int a2), some (.int a3), some (.int a4), some (.int a5)] [] KM RM I L 0 0 := by
  unfold fX12_treaty_b53w at hf
  refine j_iload hc dX12_treaty_53 rfl ?_
  refine j_iload hc dX12_treaty_55 rfl ?_
  refine j_icmp_ge (tgt := 88) hc dX12_treaty_57 rfl hf (fun hf => ?_) (fun hf => ?_)
  · refine j_iload hc dX12_treaty_88 rfl ?_
    exact j_ireturn hc dX12_treaty_90 rfl rfl hf
  · refine j_aload_n hc dX12_treaty_60 rfl ?_
    refine j_iload_n hc dX12_treaty_61 rfl ?_
    refine j_iload_n hc dX12_treaty_62 rfl ?_
    refine j_iload hc dX12_treaty_63 rfl ?_
    refine j_iconst (v := (1 : Int32)) hc dX12_treaty_65 ci_1 ?_
    refine j_iadd hc dX12_treaty_66 ?_
    refine j_callVI (t := 0) (As := [.int a1, .int a2, .int (a5 + (1 : Int32))]) hc dX12_treaty_67 kw_1926 mX12_duelWith kM_0 clX12 rfl (by omega) (Nat.le_of_ble_eq_true rfl) (Nat.le_of_ble_eq_true rfl) ⟨Nat.le_refl _, Nat.le_refl _⟩ hf (fun v I' L' h => qX12_duelWith x.2.1 n d a1 a2 (a5 + (1 : Int32)) I L v I' L' h) (fun v1 I1 L1 hf => ?_)
    refine j_if_le (tgt := 77) hc dX12_treaty_70 rfl hf (fun hf => ?_) (fun hf => ?_)
    · refine j_iconst (v := (0 : Int32)) hc dX12_treaty_77 ci_0 ?_
      exact j_sub (tX12_treaty_b78 n d hc k53 hk53 _ _ _ _ _ _ _ _ hf) (And.intro rfl (And.intro rfl (And.intro rfl (And.intro rfl (And.intro rfl (And.intro rfl (trivial)))))))
    · refine j_iconst (v := (1 : Int32)) hc dX12_treaty_73 ci_1 ?_
      refine j_goto (tgt := 78) hc dX12_treaty_74 rfl ?_
      exact j_sub (tX12_treaty_b78 n d hc k53 hk53 _ _ _ _ _ _ _ _ hf) (And.intro rfl (And.intro rfl (And.intro rfl (And.intro rfl (And.intro rfl (And.intro rfl (trivial)))))))

def fX12_treaty_b53 (n d : Nat) : Nat → Int32 → Int32 → Int32 → Int32 → Int32 → am_I → am_L → Option (Int32 × am_I × am_L)
  | 0 => fun _ _ _ _ _ _ _ => none
  | m + 1 => fX12_treaty_b53w n d  (fX12_treaty_b53 n d m)

set_option maxRecDepth 100000 in
theorem tX12_treaty_b53 {x : am_X} (n d : Nat) (hc : am_ok x cX12_treaty yX12_treaty 6 (some .int) (d + 4) 0 0) {r : Int32} {I' : am_I} {L' : am_L} (m : Nat) : ∀ (a1 : Int32) (a2 : Int32) (a3 : Int32) (a4 : Int32) (a5 : Int32) (I : am_I) (L : am_L) (hf : fX12_treaty_b53 n d m a1 a2 a3 a4 a5 I L = some (r, I', L')), am_J x (fun S => S = (some (.int r), KM, RM, I', L')) 53 [some (.ref 0), some (.int a1), some (.int a2), some (.int a3), some (.int a4), some (.int a5)] [] KM RM I L 0 0 := by
  induction m with
  | zero => intro a1 a2 a3 a4 a5 I L hf; exact (Option.some_ne_none _ hf.symm).elim
  | succ m ih => intro a1 a2 a3 a4 a5 I L hf; exact tX12_treaty_b53w n d hc (fX12_treaty_b53 n d m) ih a1 a2 a3 a4 a5 I L hf

set_option maxRecDepth 100000 in
def fX12_treaty_b26 (n d : Nat) (s0 : Int32) (a1 : Int32) (a2 : Int32) (I : am_I) (L : am_L) : Option (Int32 × am_I × am_L) :=
  am_lt s0 (fun v1 => am_ck ((8 : Int32) + a1) 206 (am_lt (I 17 (((8 : Int32) + a1)).toNatClampNeg) (fun v2 => am_ck ((8 : Int32) + a2) 206 (am_lt (I 17 (((8 : Int32) + a2)).toNatClampNeg) (fun v3 => am_b3 (fJ9_min_7cf53 n d v2 v3 I L) (fun v4 I4 L4 => am_lt v4 (fun v5 => am_lt (0 : Int32) (fun v6 => fX12_treaty_b53 n d n a1 a2 v1 v5 v6 I4 L4))))))))

set_option maxRecDepth 100000 in
set_option maxHeartbeats 4000000 in
theorem tX12_treaty_b26 {x : am_X} (n d : Nat) (hc : am_ok x cX12_treaty yX12_treaty 6 (some .int) (d + 4) 0 0) {r : Int32} {I' : am_I} {L' : am_L} (s0 : Int32) (a1 : Int32) (a2 : Int32) (I : am_I) (L : am_L) (hf : fX12_treaty_b26 n d s0 a1 a2 I L = some (r, I', L')) : am_J x (fun S => S = (some (.int r), KM, RM, I', L')) 26 [some (.ref 0), some (.int a1), some (.int a2), none, none, none] [.int s0] KM RM I L 0 0 := by
  unfold fX12_treaty_b26 at hf
  refine j_istore_n hc dX12_treaty_26 (Nat.le_of_ble_eq_true rfl) hf (fun v1 hf => ?_)
  refine j_aload_n hc dX12_treaty_27 rfl ?_
  refine j_getR (u := 17) hc dX12_treaty_28 fgM_X12_58_0 rM_0_27 ?_
  refine j_bipush (v := (8 : Int32)) hc dX12_treaty_31 cb_8 ?_
  refine j_iload_n hc dX12_treaty_33 rfl ?_
  refine j_iadd hc dX12_treaty_34 ?_
  refine j_iaload (n := 206) hc dX12_treaty_35 kM_17 hf (fun v2 hf => ?_)
  refine j_aload_n hc dX12_treaty_36 rfl ?_
  refine j_getR (u := 17) hc dX12_treaty_37 fgM_X12_58_0 rM_0_27 ?_
  refine j_bipush (v := (8 : Int32)) hc dX12_treaty_40 cb_8 ?_
  refine j_iload_n hc dX12_treaty_42 rfl ?_
  refine j_iadd hc dX12_treaty_43 ?_
  refine j_iaload (n := 206) hc dX12_treaty_44 kM_17 hf (fun v3 hf => ?_)
  refine j_callSI (As := [.int v2, .int v3]) hc dX12_treaty_45 kw_1968 mJ9_min_7cf53  rfl (by omega) (Nat.le_of_ble_eq_true rfl) (Nat.le_of_ble_eq_true rfl) ⟨Nat.le_refl _, Nat.le_refl _⟩ hf (fun v I' L' h => qJ9_min_7cf53 x.2.1 n d v2 v3 I L v I' L' h) (fun v4 I4 L4 hf => ?_)
  refine j_istore hc dX12_treaty_48 (Nat.le_of_ble_eq_true rfl) hf (fun v5 hf => ?_)
  refine j_iconst (v := (0 : Int32)) hc dX12_treaty_50 ci_0 ?_
  refine j_istore hc dX12_treaty_51 (Nat.le_of_ble_eq_true rfl) hf (fun v6 hf => ?_)
  exact j_sub (tX12_treaty_b53 n d hc n _ _ _ _ _ _ _ hf) (And.intro rfl (And.intro rfl (And.intro rfl (And.intro rfl (And.intro rfl (And.intro rfl (trivial)))))))

set_option maxRecDepth 100000 in
def fX12_treaty (n d : Nat) (a1 : Int32) (a2 : Int32) (I : am_I) (L : am_L) : Option (Int32 × am_I × am_L) :=
  am_b3 (fX12_canDuel n d a1 a2 I L) (fun v1 I1 L1 => if v1 = 0 then
    (some ((-1 : Int32), I1, L1))
    else
    (am_b3 (fX12_duelWith n d a1 a2 (0 : Int32) I1 L1) (fun v2 I2 L2 => if v2 ≤ 0 then
      (fX12_treaty_b26 n d (0 : Int32) a1 a2 I2 L2)
      else
      (fX12_treaty_b26 n d (1 : Int32) a1 a2 I2 L2))))

set_option maxRecDepth 100000 in
set_option maxHeartbeats 4000000 in
theorem tX12_treaty {x : am_X} (n d : Nat) (hc : am_ok x cX12_treaty yX12_treaty 6 (some .int) (d + 4) 0 0) {r : Int32} {I' : am_I} {L' : am_L} (a1 : Int32) (a2 : Int32) (I : am_I) (L : am_L) (hf : fX12_treaty n d a1 a2 I L = some (r, I', L')) : am_J x (fun S => S = (some (.int r), KM, RM, I', L')) 0 [some (.ref 0), some (.int a1), some (.int a2), none, none, none] [] KM RM I L 0 0 := by
  unfold fX12_treaty at hf
  refine j_aload_n hc dX12_treaty_0 rfl ?_
  refine j_iload_n hc dX12_treaty_1 rfl ?_
  refine j_iload_n hc dX12_treaty_2 rfl ?_
  refine j_callVI (t := 0) (As := [.int a1, .int a2]) hc dX12_treaty_3 kw_1922 mX12_canDuel kM_0 clX12 rfl (by omega) (Nat.le_of_ble_eq_true rfl) (Nat.le_of_ble_eq_true rfl) ⟨Nat.le_refl _, Nat.le_refl _⟩ hf (fun v I' L' h => qX12_canDuel x.2.1 n d a1 a2 I L v I' L' h) (fun v1 I1 L1 hf => ?_)
  refine j_if_ne (tgt := 11) hc dX12_treaty_6 rfl hf (fun hf => ?_) (fun hf => ?_)
  · refine j_aload_n hc dX12_treaty_11 rfl ?_
    refine j_iload_n hc dX12_treaty_12 rfl ?_
    refine j_iload_n hc dX12_treaty_13 rfl ?_
    refine j_iconst (v := (0 : Int32)) hc dX12_treaty_14 ci_0 ?_
    refine j_callVI (t := 0) (As := [.int a1, .int a2, .int (0 : Int32)]) hc dX12_treaty_15 kw_1926 mX12_duelWith kM_0 clX12 rfl (by omega) (Nat.le_of_ble_eq_true rfl) (Nat.le_of_ble_eq_true rfl) ⟨Nat.le_refl _, Nat.le_refl _⟩ hf (fun v I' L' h => qX12_duelWith x.2.1 n d a1 a2 (0 : Int32) I1 L1 v I' L' h) (fun v2 I2 L2 hf => ?_)
    refine j_if_le (tgt := 25) hc dX12_treaty_18 rfl hf (fun hf => ?_) (fun hf => ?_)
    · refine j_iconst (v := (0 : Int32)) hc dX12_treaty_25 ci_0 ?_
      exact j_sub (tX12_treaty_b26 n d hc _ _ _ _ _ hf) (And.intro rfl (And.intro rfl (And.intro rfl (trivial))))
    · refine j_iconst (v := (1 : Int32)) hc dX12_treaty_21 ci_1 ?_
      refine j_goto (tgt := 26) hc dX12_treaty_22 rfl ?_
      exact j_sub (tX12_treaty_b26 n d hc _ _ _ _ _ hf) (And.intro rfl (And.intro rfl (And.intro rfl (trivial))))
  · refine j_iconst (v := (-1 : Int32)) hc dX12_treaty_9 ci_m1 ?_
    exact j_ireturn hc dX12_treaty_10 rfl rfl hf

set_option maxRecDepth 100000 in
theorem qX12_treaty (l : Launch) (n d : Nat) (a1 : Int32) (a2 : Int32) (I : am_I) (L : am_L) (r : Int32) (I' : am_I) (L' : am_L) (hf : fX12_treaty n d a1 a2 I L = some (r, I', L')) : am_C l yX12_treaty cX12_treaty 6 (some .int) (d + 4) [.ref 0, .int a1, .int a2] KM RM I L (some (.int r)) I' L' := by
  exact am_intro (plainFor_of_name plX12) (fun _ _ => trivial) (Nat.le_of_ble_eq_true rfl) (fun x hl hc => by subst hl; exact j_sub (tX12_treaty n d hc _ _ _ _ hf) (And.intro rfl (And.intro rfl (And.intro rfl (trivial)))))
set_option maxRecDepth 100000 in
def fX12_foes_b38 (n d : Nat) (k4 : Int32 → Int32 → Int32 → am_I → am_L → Option (Int32 × am_I × am_L)) (s0 : Int32) (s1 : Int32) (a1 : Int32) (a3 : Int32) (I : am_I) (L : am_L) : Option (Int32 × am_I × am_L) :=
  am_lt (s0 + s1) (fun v1 => am_lt (a3 + (1 : Int32)) (fun v2 => k4 a1 v1 v2 I L))

set_option maxRecDepth 100000 in
set_option maxHeartbeats 4000000 in
theorem tX12_foes_b38 {x : am_X} (n d : Nat) (hc : am_ok x cX12_foes yX12_foes 4 (some .int) (d + 2) 0 0) {r : Int32} {I' : am_I} {L' : am_L} (k4 : Int32 → Int32 → Int32 → am_I → am_L → Option (Int32 × am_I × am_L)) (hk4 : ∀ (a1 : Int32) (a2 : Int32) (a3 : Int32) (I : am_I) (L : am_L), k4 a1 a2 a3 I L = some (r, I', L') → am_J x (fun S => S = (some (.int r), KM, RM, I', L')) 4 [some (.ref 0), some (.int a1), some (.int a2), some (.int a3)] [] KM RM I L 0 0) (s0 : Int32) (s1 : Int32) (a1 : Int32) (a3 : Int32) (I : am_I) (L : am_L) (hf : fX12_foes_b38 n d k4 s0 s1 a1 a3 I L = some (r, I', L')) : am_J x (fun S => S = (some (.int r), KM, RM, I', L')) 38 [some (.ref 0), some (.int a1), none, some (.int a3)] [.int s1, .int s0] KM RM I L 0 0 := by
  unfold fX12_foes_b38 at hf
  refine j_iadd hc dX12_foes_38 ?_
  refine j_istore_n hc dX12_foes_39 (Nat.le_of_ble_eq_true rfl) hf (fun v1 hf => ?_)
  refine j_iinc (w := (1 : Int32)) hc dX12_foes_40 rfl ci_1 (Nat.le_of_ble_eq_true rfl) hf (fun v2 hf => ?_)
  refine j_goto (tgt := 4) hc dX12_foes_43 rfl ?_
  exact j_sub (hk4 _ _ _ _ _ hf) (And.intro rfl (And.intro rfl (And.intro rfl (And.intro rfl (trivial)))))

set_option maxRecDepth 100000 in
def fX12_foes_b37 (n d : Nat) (k4 : Int32 → Int32 → Int32 → am_I → am_L → Option (Int32 × am_I × am_L)) (s0 : Int32) (a1 : Int32) (a3 : Int32) (I : am_I) (L : am_L) : Option (Int32 × am_I × am_L) :=
  fX12_foes_b38 n d k4 s0 (0 : Int32) a1 a3 I L

set_option maxRecDepth 100000 in
set_option maxHeartbeats 4000000 in
theorem tX12_foes_b37 {x : am_X} (n d : Nat) (hc : am_ok x cX12_foes yX12_foes 4 (some .int) (d + 2) 0 0) {r : Int32} {I' : am_I} {L' : am_L} (k4 : Int32 → Int32 → Int32 → am_I → am_L → Option (Int32 × am_I × am_L)) (hk4 : ∀ (a1 : Int32) (a2 : Int32) (a3 : Int32) (I : am_I) (L : am_L), k4 a1 a2 a3 I L = some (r, I', L') → am_J x (fun S => S = (some (.int r), KM, RM, I', L')) 4 [some (.ref 0), some (.int a1), some (.int a2), some (.int a3)] [] KM RM I L 0 0) (s0 : Int32) (a1 : Int32) (a3 : Int32) (I : am_I) (L : am_L) (hf : fX12_foes_b37 n d k4 s0 a1 a3 I L = some (r, I', L')) : am_J x (fun S => S = (some (.int r), KM, RM, I', L')) 37 [some (.ref 0), some (.int a1), none, some (.int a3)] [.int s0] KM RM I L 0 0 := by
  unfold fX12_foes_b37 at hf
  refine j_iconst (v := (0 : Int32)) hc dX12_foes_37 ci_0 ?_
  exact j_sub (tX12_foes_b38 n d hc k4 hk4 _ _ _ _ _ _ hf) (And.intro rfl (And.intro rfl (And.intro rfl (trivial))))

set_option maxRecDepth 100000 in
def fX12_foes_b4w (n d : Nat) (k4 : Int32 → Int32 → Int32 → am_I → am_L → Option (Int32 × am_I × am_L)) (a1 : Int32) (a2 : Int32) (a3 : Int32) (I : am_I) (L : am_L) : Option (Int32 × am_I × am_L) :=
  if (I 0 25) ≤ a3 then
    (some (a2, I, L))
    else
    (am_b3 (fX12_side n d a3 I L) (fun v1 I1 L1 => if v1 = a1 then
      (fX12_foes_b37 n d k4 a2 a1 a3 I1 L1)
      else
      (am_ck ((0 : Int32) + a3) 206 (am_lt (I1 17 (((0 : Int32) + a3)).toNatClampNeg) (fun v2 => if v2 ≤ 0 then
        (fX12_foes_b37 n d k4 a2 a1 a3 I1 L1)
        else
        (fX12_foes_b38 n d k4 a2 (1 : Int32) a1 a3 I1 L1))))))

set_option maxRecDepth 100000 in
set_option maxHeartbeats 4000000 in
theorem tX12_foes_b4w {x : am_X} (n d : Nat) (hc : am_ok x cX12_foes yX12_foes 4 (some .int) (d + 2) 0 0) {r : Int32} {I' : am_I} {L' : am_L} (k4 : Int32 → Int32 → Int32 → am_I → am_L → Option (Int32 × am_I × am_L)) (hk4 : ∀ (a1 : Int32) (a2 : Int32) (a3 : Int32) (I : am_I) (L : am_L), k4 a1 a2 a3 I L = some (r, I', L') → am_J x (fun S => S = (some (.int r), KM, RM, I', L')) 4 [some (.ref 0), some (.int a1), some (.int a2), some (.int a3)] [] KM RM I L 0 0) (a1 : Int32) (a2 : Int32) (a3 : Int32) (I : am_I) (L : am_L) (hf : fX12_foes_b4w n d k4 a1 a2 a3 I L = some (r, I', L')) : am_J x (fun S => S = (some (.int r), KM, RM, I', L')) 4 [some (.ref 0), some (.int a1), some (.int a2), some (.int a3)] [] KM RM I L 0 0 := by
  unfold fX12_foes_b4w at hf
  refine j_iload_n hc dX12_foes_4 rfl ?_
  refine j_aload_n hc dX12_foes_5 rfl ?_
  refine j_getI hc dX12_foes_6 fgM_X12_250_0 ?_
  refine j_icmp_ge (tgt := 46) hc dX12_foes_9 rfl hf (fun hf => ?_) (fun hf => ?_)
  · refine j_iload_n hc dX12_foes_46 rfl ?_
    exact j_ireturn hc dX12_foes_47 rfl rfl hf
  · refine j_iload_n hc dX12_foes_12 rfl ?_
    refine j_aload_n hc dX12_foes_13 rfl ?_
    refine j_iload_n hc dX12_foes_14 rfl ?_
    refine j_callVI (t := 0) (As := [.int a3]) hc dX12_foes_15 kw_1780 mX12_side kM_0 clX12 rfl (by omega) (Nat.le_of_ble_eq_true rfl) (Nat.le_of_ble_eq_true rfl) ⟨Nat.le_refl _, Nat.le_refl _⟩ hf (fun v I' L' h => qX12_side x.2.1 n d a3 I L v I' L' h) (fun v1 I1 L1 hf => ?_)
    refine j_iload_n hc dX12_foes_18 rfl ?_
    refine j_icmp_eq (tgt := 37) hc dX12_foes_19 rfl hf (fun hf => ?_) (fun hf => ?_)
    · exact j_sub (tX12_foes_b37 n d hc k4 hk4 _ _ _ _ _ hf) (And.intro rfl (And.intro rfl (And.intro rfl (trivial))))
    · refine j_aload_n hc dX12_foes_22 rfl ?_
      refine j_getR (u := 17) hc dX12_foes_23 fgM_X12_58_0 rM_0_27 ?_
      refine j_iconst (v := (0 : Int32)) hc dX12_foes_26 ci_0 ?_
      refine j_iload_n hc dX12_foes_27 rfl ?_
      refine j_iadd hc dX12_foes_28 ?_
      refine j_iaload (n := 206) hc dX12_foes_29 kM_17 hf (fun v2 hf => ?_)
      refine j_if_le (tgt := 37) hc dX12_foes_30 rfl hf (fun hf => ?_) (fun hf => ?_)
      · exact j_sub (tX12_foes_b37 n d hc k4 hk4 _ _ _ _ _ hf) (And.intro rfl (And.intro rfl (And.intro rfl (trivial))))
      · refine j_iconst (v := (1 : Int32)) hc dX12_foes_33 ci_1 ?_
        refine j_goto (tgt := 38) hc dX12_foes_34 rfl ?_
        exact j_sub (tX12_foes_b38 n d hc k4 hk4 _ _ _ _ _ _ hf) (And.intro rfl (And.intro rfl (And.intro rfl (trivial))))

def fX12_foes_b4 (n d : Nat) : Nat → Int32 → Int32 → Int32 → am_I → am_L → Option (Int32 × am_I × am_L)
  | 0 => fun _ _ _ _ _ => none
  | m + 1 => fX12_foes_b4w n d  (fX12_foes_b4 n d m)

set_option maxRecDepth 100000 in
theorem tX12_foes_b4 {x : am_X} (n d : Nat) (hc : am_ok x cX12_foes yX12_foes 4 (some .int) (d + 2) 0 0) {r : Int32} {I' : am_I} {L' : am_L} (m : Nat) : ∀ (a1 : Int32) (a2 : Int32) (a3 : Int32) (I : am_I) (L : am_L) (hf : fX12_foes_b4 n d m a1 a2 a3 I L = some (r, I', L')), am_J x (fun S => S = (some (.int r), KM, RM, I', L')) 4 [some (.ref 0), some (.int a1), some (.int a2), some (.int a3)] [] KM RM I L 0 0 := by
  induction m with
  | zero => intro a1 a2 a3 I L hf; exact (Option.some_ne_none _ hf.symm).elim
  | succ m ih => intro a1 a2 a3 I L hf; exact tX12_foes_b4w n d hc (fX12_foes_b4 n d m) ih a1 a2 a3 I L hf

set_option maxRecDepth 100000 in
def fX12_foes (n d : Nat) (a1 : Int32) (I : am_I) (L : am_L) : Option (Int32 × am_I × am_L) :=
  am_lt (0 : Int32) (fun v1 => am_lt (0 : Int32) (fun v2 => fX12_foes_b4 n d n a1 v1 v2 I L))

set_option maxRecDepth 100000 in
set_option maxHeartbeats 4000000 in
theorem tX12_foes {x : am_X} (n d : Nat) (hc : am_ok x cX12_foes yX12_foes 4 (some .int) (d + 2) 0 0) {r : Int32} {I' : am_I} {L' : am_L} (a1 : Int32) (I : am_I) (L : am_L) (hf : fX12_foes n d a1 I L = some (r, I', L')) : am_J x (fun S => S = (some (.int r), KM, RM, I', L')) 0 [some (.ref 0), some (.int a1), none, none] [] KM RM I L 0 0 := by
  unfold fX12_foes at hf
  refine j_iconst (v := (0 : Int32)) hc dX12_foes_0 ci_0 ?_
  refine j_istore_n hc dX12_foes_1 (Nat.le_of_ble_eq_true rfl) hf (fun v1 hf => ?_)
  refine j_iconst (v := (0 : Int32)) hc dX12_foes_2 ci_0 ?_
  refine j_istore_n hc dX12_foes_3 (Nat.le_of_ble_eq_true rfl) hf (fun v2 hf => ?_)
  exact j_sub (tX12_foes_b4 n d hc n _ _ _ _ _ hf) (And.intro rfl (And.intro rfl (And.intro rfl (And.intro rfl (trivial)))))

set_option maxRecDepth 100000 in
theorem qX12_foes (l : Launch) (n d : Nat) (a1 : Int32) (I : am_I) (L : am_L) (r : Int32) (I' : am_I) (L' : am_L) (hf : fX12_foes n d a1 I L = some (r, I', L')) : am_C l yX12_foes cX12_foes 4 (some .int) (d + 2) [.ref 0, .int a1] KM RM I L (some (.int r)) I' L' := by
  exact am_intro (plainFor_of_name plX12) (fun _ _ => trivial) (Nat.le_of_ble_eq_true rfl) (fun x hl hc => by subst hl; exact j_sub (tX12_foes n d hc _ _ _ hf) (And.intro rfl (And.intro rfl (trivial))))
set_option maxRecDepth 100000 in
def fX12_victors_b75 (n d : Nat) (k21 : Int32 → Int32 → Int32 → Int32 → am_I → am_L → Option (Int32 × am_I × am_L)) (s0 : Int32) (s1 : Int32) (a1 : Int32) (a3 : Int32) (a4 : Int32) (I : am_I) (L : am_L) : Option (Int32 × am_I × am_L) :=
  am_lt (s0 ||| s1) (fun v1 => am_lt (a4 + (1 : Int32)) (fun v2 => k21 a1 v1 a3 v2 I L))

set_option maxRecDepth 100000 in
set_option maxHeartbeats 4000000 in
theorem tX12_victors_b75 {x : am_X} (n d : Nat) (hc : am_ok x cX12_victors yX12_victors 5 (some .int) (d + 5) 0 0) {r : Int32} {I' : am_I} {L' : am_L} (k21 : Int32 → Int32 → Int32 → Int32 → am_I → am_L → Option (Int32 × am_I × am_L)) (hk21 : ∀ (a1 : Int32) (a2 : Int32) (a3 : Int32) (a4 : Int32) (I : am_I) (L : am_L), k21 a1 a2 a3 a4 I L = some (r, I', L') → am_J x (fun S => S = (some (.int r), KM, RM, I', L')) 21 [some (.ref 0), some (.int a1), some (.int a2), some (.int a3), some (.int a4)] [] KM RM I L 0 0) (s0 : Int32) (s1 : Int32) (a1 : Int32) (a3 : Int32) (a4 : Int32) (I : am_I) (L : am_L) (hf : fX12_victors_b75 n d k21 s0 s1 a1 a3 a4 I L = some (r, I', L')) : am_J x (fun S => S = (some (.int r), KM, RM, I', L')) 75 [some (.ref 0), some (.int a1), none, some (.int a3), some (.int a4)] [.int s1, .int s0] KM RM I L 0 0 := by
  unfold fX12_victors_b75 at hf
  refine j_ior hc dX12_victors_75 ?_
  refine j_istore_n hc dX12_victors_76 (Nat.le_of_ble_eq_true rfl) hf (fun v1 hf => ?_)
  refine j_iinc (w := (1 : Int32)) hc dX12_victors_77 rfl ci_1 (Nat.le_of_ble_eq_true rfl) hf (fun v2 hf => ?_)
  refine j_goto (tgt := 21) hc dX12_victors_80 rfl ?_
  exact j_sub (hk21 _ _ _ _ _ _ hf) (And.intro rfl (And.intro rfl (And.intro rfl (And.intro rfl (And.intro rfl (trivial))))))

set_option maxRecDepth 100000 in
def fX12_victors_b74 (n d : Nat) (k21 : Int32 → Int32 → Int32 → Int32 → am_I → am_L → Option (Int32 × am_I × am_L)) (s0 : Int32) (a1 : Int32) (a3 : Int32) (a4 : Int32) (I : am_I) (L : am_L) : Option (Int32 × am_I × am_L) :=
  fX12_victors_b75 n d k21 s0 (0 : Int32) a1 a3 a4 I L

set_option maxRecDepth 100000 in
set_option maxHeartbeats 4000000 in
theorem tX12_victors_b74 {x : am_X} (n d : Nat) (hc : am_ok x cX12_victors yX12_victors 5 (some .int) (d + 5) 0 0) {r : Int32} {I' : am_I} {L' : am_L} (k21 : Int32 → Int32 → Int32 → Int32 → am_I → am_L → Option (Int32 × am_I × am_L)) (hk21 : ∀ (a1 : Int32) (a2 : Int32) (a3 : Int32) (a4 : Int32) (I : am_I) (L : am_L), k21 a1 a2 a3 a4 I L = some (r, I', L') → am_J x (fun S => S = (some (.int r), KM, RM, I', L')) 21 [some (.ref 0), some (.int a1), some (.int a2), some (.int a3), some (.int a4)] [] KM RM I L 0 0) (s0 : Int32) (a1 : Int32) (a3 : Int32) (a4 : Int32) (I : am_I) (L : am_L) (hf : fX12_victors_b74 n d k21 s0 a1 a3 a4 I L = some (r, I', L')) : am_J x (fun S => S = (some (.int r), KM, RM, I', L')) 74 [some (.ref 0), some (.int a1), none, some (.int a3), some (.int a4)] [.int s0] KM RM I L 0 0 := by
  unfold fX12_victors_b74 at hf
  refine j_iconst (v := (0 : Int32)) hc dX12_victors_74 ci_0 ?_
  exact j_sub (tX12_victors_b75 n d hc k21 hk21 _ _ _ _ _ _ _ hf) (And.intro rfl (And.intro rfl (And.intro rfl (And.intro rfl (trivial)))))

set_option maxRecDepth 100000 in
def fX12_victors_b21w (n d : Nat) (k21 : Int32 → Int32 → Int32 → Int32 → am_I → am_L → Option (Int32 × am_I × am_L)) (a1 : Int32) (a2 : Int32) (a3 : Int32) (a4 : Int32) (I : am_I) (L : am_L) : Option (Int32 × am_I × am_L) :=
  if (I 0 25) ≤ a4 then
    (some (a2, I, L))
    else
    (am_b3 (fX12_side n d a4 I L) (fun v1 I1 L1 => if v1 = a1 then
      (am_ck ((0 : Int32) + a4) 206 (am_lt (I1 17 (((0 : Int32) + a4)).toNatClampNeg) (fun v2 => if v2 ≤ 0 then
        (fX12_victors_b74 n d k21 a2 a1 a3 a4 I1 L1)
        else
        (if a3 ≤ 0 then
          (fX12_victors_b74 n d k21 a2 a1 a3 a4 I1 L1)
          else
          (am_b3 (fX12_wins n d a4 I1 L1) (fun v3 I3 L3 => if v3 = a3 then
            (fX12_victors_b75 n d k21 a2 ((1 : Int32) <<< (a4 &&& 31)) a1 a3 a4 I3 L3)
            else
            (fX12_victors_b74 n d k21 a2 a1 a3 a4 I3 L3)))))))
      else
      (fX12_victors_b74 n d k21 a2 a1 a3 a4 I1 L1)))

set_option maxRecDepth 100000 in
set_option maxHeartbeats 4000000 in
theorem tX12_victors_b21w {x : am_X} (n d : Nat) (hc : am_ok x cX12_victors yX12_victors 5 (some .int) (d + 5) 0 0) {r : Int32} {I' : am_I} {L' : am_L} (k21 : Int32 → Int32 → Int32 → Int32 → am_I → am_L → Option (Int32 × am_I × am_L)) (hk21 : ∀ (a1 : Int32) (a2 : Int32) (a3 : Int32) (a4 : Int32) (I : am_I) (L : am_L), k21 a1 a2 a3 a4 I L = some (r, I', L') → am_J x (fun S => S = (some (.int r), KM, RM, I', L')) 21 [some (.ref 0), some (.int a1), some (.int a2), some (.int a3), some (.int a4)] [] KM RM I L 0 0) (a1 : Int32) (a2 : Int32) (a3 : Int32) (a4 : Int32) (I : am_I) (L : am_L) (hf : fX12_victors_b21w n d k21 a1 a2 a3 a4 I L = some (r, I', L')) : am_J x (fun S => S = (some (.int r), KM, RM, I', L')) 21 [some (.ref 0), some (.int a1), some (.int a2), some (.int a3), some (.int a4)] [] KM RM I L 0 0 := by
  unfold fX12_victors_b21w at hf
  refine j_iload hc dX12_victors_21 rfl ?_
  refine j_aload_n hc dX12_victors_23 rfl ?_
  refine j_getI hc dX12_victors_24 fgM_X12_250_0 ?_
  refine j_icmp_ge (tgt := 83) hc dX12_victors_27 rfl hf (fun hf => ?_) (fun hf => ?_)
  · refine j_iload_n hc dX12_victors_83 rfl ?_
    exact j_ireturn hc dX12_victors_84 rfl rfl hf
  · refine j_iload_n hc dX12_victors_30 rfl ?_
    refine j_aload_n hc dX12_victors_31 rfl ?_
    refine j_iload hc dX12_victors_32 rfl ?_
    refine j_callVI (t := 0) (As := [.int a4]) hc dX12_victors_34 kw_1780 mX12_side kM_0 clX12 rfl (by omega) (Nat.le_of_ble_eq_true rfl) (Nat.le_of_ble_eq_true rfl) ⟨Nat.le_refl _, Nat.le_refl _⟩ hf (fun v I' L' h => qX12_side x.2.1 n d a4 I L v I' L' h) (fun v1 I1 L1 hf => ?_)
    refine j_iload_n hc dX12_victors_37 rfl ?_
    refine j_icmp_ne (tgt := 74) hc dX12_victors_38 rfl hf (fun hf => ?_) (fun hf => ?_)
    · exact j_sub (tX12_victors_b74 n d hc k21 hk21 _ _ _ _ _ _ hf) (And.intro rfl (And.intro rfl (And.intro rfl (And.intro rfl (trivial)))))
    · refine j_aload_n hc dX12_victors_41 rfl ?_
      refine j_getR (u := 17) hc dX12_victors_42 fgM_X12_58_0 rM_0_27 ?_
      refine j_iconst (v := (0 : Int32)) hc dX12_victors_45 ci_0 ?_
      refine j_iload hc dX12_victors_46 rfl ?_
      refine j_iadd hc dX12_victors_48 ?_
      refine j_iaload (n := 206) hc dX12_victors_49 kM_17 hf (fun v2 hf => ?_)
      refine j_if_le (tgt := 74) hc dX12_victors_50 rfl hf (fun hf => ?_) (fun hf => ?_)
      · exact j_sub (tX12_victors_b74 n d hc k21 hk21 _ _ _ _ _ _ hf) (And.intro rfl (And.intro rfl (And.intro rfl (And.intro rfl (trivial)))))
      · refine j_iload_n hc dX12_victors_53 rfl ?_
        refine j_if_le (tgt := 74) hc dX12_victors_54 rfl hf (fun hf => ?_) (fun hf => ?_)
        · exact j_sub (tX12_victors_b74 n d hc k21 hk21 _ _ _ _ _ _ hf) (And.intro rfl (And.intro rfl (And.intro rfl (And.intro rfl (trivial)))))
        · refine j_aload_n hc dX12_victors_57 rfl ?_
          refine j_iload hc dX12_victors_58 rfl ?_
          refine j_callVI (t := 0) (As := [.int a4]) hc dX12_victors_60 kw_1952 mX12_wins kM_0 clX12 rfl (by omega) (Nat.le_of_ble_eq_true rfl) (Nat.le_of_ble_eq_true rfl) ⟨Nat.le_refl _, Nat.le_refl _⟩ hf (fun v I' L' h => qX12_wins x.2.1 n d a4 I1 L1 v I' L' h) (fun v3 I3 L3 hf => ?_)
          refine j_iload_n hc dX12_victors_63 rfl ?_
          refine j_icmp_ne (tgt := 74) hc dX12_victors_64 rfl hf (fun hf => ?_) (fun hf => ?_)
          · exact j_sub (tX12_victors_b74 n d hc k21 hk21 _ _ _ _ _ _ hf) (And.intro rfl (And.intro rfl (And.intro rfl (And.intro rfl (trivial)))))
          · refine j_iconst (v := (1 : Int32)) hc dX12_victors_67 ci_1 ?_
            refine j_iload hc dX12_victors_68 rfl ?_
            refine j_ishl hc dX12_victors_70 ?_
            refine j_goto (tgt := 75) hc dX12_victors_71 rfl ?_
            exact j_sub (tX12_victors_b75 n d hc k21 hk21 _ _ _ _ _ _ _ hf) (And.intro rfl (And.intro rfl (And.intro rfl (And.intro rfl (trivial)))))

def fX12_victors_b21 (n d : Nat) : Nat → Int32 → Int32 → Int32 → Int32 → am_I → am_L → Option (Int32 × am_I × am_L)
  | 0 => fun _ _ _ _ _ _ => none
  | m + 1 => fX12_victors_b21w n d  (fX12_victors_b21 n d m)

set_option maxRecDepth 100000 in
theorem tX12_victors_b21 {x : am_X} (n d : Nat) (hc : am_ok x cX12_victors yX12_victors 5 (some .int) (d + 5) 0 0) {r : Int32} {I' : am_I} {L' : am_L} (m : Nat) : ∀ (a1 : Int32) (a2 : Int32) (a3 : Int32) (a4 : Int32) (I : am_I) (L : am_L) (hf : fX12_victors_b21 n d m a1 a2 a3 a4 I L = some (r, I', L')), am_J x (fun S => S = (some (.int r), KM, RM, I', L')) 21 [some (.ref 0), some (.int a1), some (.int a2), some (.int a3), some (.int a4)] [] KM RM I L 0 0 := by
  induction m with
  | zero => intro a1 a2 a3 a4 I L hf; exact (Option.some_ne_none _ hf.symm).elim
  | succ m ih => intro a1 a2 a3 a4 I L hf; exact tX12_victors_b21w n d hc (fX12_victors_b21 n d m) ih a1 a2 a3 a4 I L hf

set_option maxRecDepth 100000 in
def fX12_victors (n d : Nat) (a1 : Int32) (I : am_I) (L : am_L) : Option (Int32 × am_I × am_L) :=
  am_b3 (fX12_isSide n d a1 I L) (fun v1 I1 L1 => if v1 = 0 then
    (some ((-1 : Int32), I1, L1))
    else
    (am_lt (0 : Int32) (fun v2 => am_b3 (fX12_foes n d a1 I1 L1) (fun v3 I3 L3 => am_lt v3 (fun v4 => am_lt (0 : Int32) (fun v5 => fX12_victors_b21 n d n a1 v2 v4 v5 I3 L3))))))

set_option maxRecDepth 100000 in
set_option maxHeartbeats 4000000 in
theorem tX12_victors {x : am_X} (n d : Nat) (hc : am_ok x cX12_victors yX12_victors 5 (some .int) (d + 5) 0 0) {r : Int32} {I' : am_I} {L' : am_L} (a1 : Int32) (I : am_I) (L : am_L) (hf : fX12_victors n d a1 I L = some (r, I', L')) : am_J x (fun S => S = (some (.int r), KM, RM, I', L')) 0 [some (.ref 0), some (.int a1), none, none, none] [] KM RM I L 0 0 := by
  unfold fX12_victors at hf
  refine j_aload_n hc dX12_victors_0 rfl ?_
  refine j_iload_n hc dX12_victors_1 rfl ?_
  refine j_callVI (t := 0) (As := [.int a1]) hc dX12_victors_2 kw_1948 mX12_isSide kM_0 clX12 rfl (by omega) (Nat.le_of_ble_eq_true rfl) (Nat.le_of_ble_eq_true rfl) ⟨Nat.le_refl _, Nat.le_refl _⟩ hf (fun v I' L' h => qX12_isSide x.2.1 n d a1 I L v I' L' h) (fun v1 I1 L1 hf => ?_)
  refine j_if_ne (tgt := 10) hc dX12_victors_5 rfl hf (fun hf => ?_) (fun hf => ?_)
  · refine j_iconst (v := (0 : Int32)) hc dX12_victors_10 ci_0 ?_
    refine j_istore_n hc dX12_victors_11 (Nat.le_of_ble_eq_true rfl) hf (fun v2 hf => ?_)
    refine j_aload_n hc dX12_victors_12 rfl ?_
    refine j_iload_n hc dX12_victors_13 rfl ?_
    refine j_callVI (t := 0) (As := [.int a1]) hc dX12_victors_14 kw_1960 mX12_foes kM_0 clX12 rfl (by omega) (Nat.le_of_ble_eq_true rfl) (Nat.le_of_ble_eq_true rfl) ⟨Nat.le_refl _, Nat.le_refl _⟩ hf (fun v I' L' h => qX12_foes x.2.1 n d a1 I1 L1 v I' L' h) (fun v3 I3 L3 hf => ?_)
    refine j_istore_n hc dX12_victors_17 (Nat.le_of_ble_eq_true rfl) hf (fun v4 hf => ?_)
    refine j_iconst (v := (0 : Int32)) hc dX12_victors_18 ci_0 ?_
    refine j_istore hc dX12_victors_19 (Nat.le_of_ble_eq_true rfl) hf (fun v5 hf => ?_)
    exact j_sub (tX12_victors_b21 n d hc n _ _ _ _ _ _ hf) (And.intro rfl (And.intro rfl (And.intro rfl (And.intro rfl (And.intro rfl (trivial))))))
  · refine j_iconst (v := (-1 : Int32)) hc dX12_victors_8 ci_m1 ?_
    exact j_ireturn hc dX12_victors_9 rfl rfl hf

set_option maxRecDepth 100000 in
theorem qX12_victors (l : Launch) (n d : Nat) (a1 : Int32) (I : am_I) (L : am_L) (r : Int32) (I' : am_I) (L' : am_L) (hf : fX12_victors n d a1 I L = some (r, I', L')) : am_C l yX12_victors cX12_victors 5 (some .int) (d + 5) [.ref 0, .int a1] KM RM I L (some (.int r)) I' L' := by
  exact am_intro (plainFor_of_name plX12) (fun _ _ => trivial) (Nat.le_of_ble_eq_true rfl) (fun x hl hc => by subst hl; exact j_sub (tX12_victors n d hc _ _ _ hf) (And.intro rfl (And.intro rfl (trivial))))
set_option maxRecDepth 100000 in
def fX12_sure_b87 (n d : Nat) (k15 : Int32 → Int32 → Int32 → am_I → am_L → Option (Int32 × am_I × am_L)) (a1 : Int32) (a2 : Int32) (a3 : Int32) (I : am_I) (L : am_L) : Option (Int32 × am_I × am_L) :=
  am_lt (a3 + (1 : Int32)) (fun v1 => k15 a1 a2 v1 I L)

set_option maxRecDepth 100000 in
set_option maxHeartbeats 4000000 in
theorem tX12_sure_b87 {x : am_X} (n d : Nat) (hc : am_ok x cX12_sure yX12_sure 7 (some .int) (d + 3) 0 0) {r : Int32} {I' : am_I} {L' : am_L} (k15 : Int32 → Int32 → Int32 → am_I → am_L → Option (Int32 × am_I × am_L)) (hk15 : ∀ (a1 : Int32) (a2 : Int32) (a3 : Int32) (I : am_I) (L : am_L), k15 a1 a2 a3 I L = some (r, I', L') → am_J x (fun S => S = (some (.int r), KM, RM, I', L')) 15 [some (.ref 0), some (.int a1), some (.int a2), some (.int a3), none, none, none] [] KM RM I L 0 0) (a1 : Int32) (a2 : Int32) (a3 : Int32) (I : am_I) (L : am_L) (hf : fX12_sure_b87 n d k15 a1 a2 a3 I L = some (r, I', L')) : am_J x (fun S => S = (some (.int r), KM, RM, I', L')) 87 [some (.ref 0), some (.int a1), some (.int a2), some (.int a3), none, none, none] [] KM RM I L 0 0 := by
  unfold fX12_sure_b87 at hf
  refine j_iinc (w := (1 : Int32)) hc dX12_sure_87 rfl ci_1 (Nat.le_of_ble_eq_true rfl) hf (fun v1 hf => ?_)
  refine j_goto (tgt := 15) hc dX12_sure_90 rfl ?_
  exact j_sub (hk15 _ _ _ _ _ hf) (And.intro rfl (And.intro rfl (And.intro rfl (And.intro rfl (trivial)))))

set_option maxRecDepth 100000 in
def fX12_sure_b86 (n d : Nat) (k15 : Int32 → Int32 → Int32 → am_I → am_L → Option (Int32 × am_I × am_L)) (s0 : Int32) (a1 : Int32) (a3 : Int32) (I : am_I) (L : am_L) : Option (Int32 × am_I × am_L) :=
  am_lt s0 (fun v1 => fX12_sure_b87 n d k15 a1 v1 a3 I L)

set_option maxRecDepth 100000 in
set_option maxHeartbeats 4000000 in
theorem tX12_sure_b86 {x : am_X} (n d : Nat) (hc : am_ok x cX12_sure yX12_sure 7 (some .int) (d + 3) 0 0) {r : Int32} {I' : am_I} {L' : am_L} (k15 : Int32 → Int32 → Int32 → am_I → am_L → Option (Int32 × am_I × am_L)) (hk15 : ∀ (a1 : Int32) (a2 : Int32) (a3 : Int32) (I : am_I) (L : am_L), k15 a1 a2 a3 I L = some (r, I', L') → am_J x (fun S => S = (some (.int r), KM, RM, I', L')) 15 [some (.ref 0), some (.int a1), some (.int a2), some (.int a3), none, none, none] [] KM RM I L 0 0) (s0 : Int32) (a1 : Int32) (a3 : Int32) (I : am_I) (L : am_L) (hf : fX12_sure_b86 n d k15 s0 a1 a3 I L = some (r, I', L')) : am_J x (fun S => S = (some (.int r), KM, RM, I', L')) 86 [some (.ref 0), some (.int a1), none, some (.int a3), none, none, none] [.int s0] KM RM I L 0 0 := by
  unfold fX12_sure_b86 at hf
  refine j_istore_n hc dX12_sure_86 (Nat.le_of_ble_eq_true rfl) hf (fun v1 hf => ?_)
  exact j_sub (tX12_sure_b87 n d hc k15 hk15 _ _ _ _ _ hf) (And.intro rfl (And.intro rfl (And.intro rfl (And.intro rfl (trivial)))))

set_option maxRecDepth 100000 in
def fX12_sure_b41w (n d : Nat) (k15 : Int32 → Int32 → Int32 → am_I → am_L → Option (Int32 × am_I × am_L)) (k41 : Int32 → Int32 → Int32 → Int32 → Int32 → Int32 → am_I → am_L → Option (Int32 × am_I × am_L)) (a1 : Int32) (a2 : Int32) (a3 : Int32) (a4 : Int32) (a5 : Int32) (a6 : Int32) (I : am_I) (L : am_L) : Option (Int32 × am_I × am_L) :=
  if a1 ≤ a6 then
    (if a2 = (-1 : Int32) then
      (fX12_sure_b86 n d k15 a4 a1 a3 I L)
      else
      (fX12_sure_b86 n d k15 (a2 &&& a4) a1 a3 I L))
    else
    ((if (21 : Int32) = 0 then none else am_lt (a4 ||| ((1 : Int32) <<< ((a5 - a5 / (21 : Int32) * (21 : Int32)) &&& 31))) (fun v1 => (if (21 : Int32) = 0 then none else am_lt (a5 / (21 : Int32)) (fun v2 => am_lt (a6 + (1 : Int32)) (fun v3 => k41 a1 a2 a3 v1 v2 v3 I L))))))

set_option maxRecDepth 100000 in
set_option maxHeartbeats 4000000 in
theorem tX12_sure_b41w {x : am_X} (n d : Nat) (hc : am_ok x cX12_sure yX12_sure 7 (some .int) (d + 3) 0 0) {r : Int32} {I' : am_I} {L' : am_L} (k15 : Int32 → Int32 → Int32 → am_I → am_L → Option (Int32 × am_I × am_L)) (k41 : Int32 → Int32 → Int32 → Int32 → Int32 → Int32 → am_I → am_L → Option (Int32 × am_I × am_L)) (hk15 : ∀ (a1 : Int32) (a2 : Int32) (a3 : Int32) (I : am_I) (L : am_L), k15 a1 a2 a3 I L = some (r, I', L') → am_J x (fun S => S = (some (.int r), KM, RM, I', L')) 15 [some (.ref 0), some (.int a1), some (.int a2), some (.int a3), none, none, none] [] KM RM I L 0 0) (hk41 : ∀ (a1 : Int32) (a2 : Int32) (a3 : Int32) (a4 : Int32) (a5 : Int32) (a6 : Int32) (I : am_I) (L : am_L), k41 a1 a2 a3 a4 a5 a6 I L = some (r, I', L') → am_J x (fun S => S = (some (.int r), KM, RM, I', L')) 41 [some (.ref 0), some (.int a1), some (.int a2), some (.int a3), some (.int a4), some (.int a5), some (.int a6)] [] KM RM I L 0 0) (a1 : Int32) (a2 : Int32) (a3 : Int32) (a4 : Int32) (a5 : Int32) (a6 : Int32) (I : am_I) (L : am_L) (hf : fX12_sure_b41w n d k15 k41 a1 a2 a3 a4 a5 a6 I L = some (r, I', L')) : am_J x (fun S => S = (some (.int r), KM, RM, I', L')) 41 [some (.ref 0), some (.int a1), some (.int a2), some (.int a3), some (.int a4), some (.int a5), some (.int a6)] [] KM RM I L 0 0 := by
  unfold fX12_sure_b41w at hf
  refine j_iload hc dX12_sure_41 rfl ?_
  refine j_iload_n hc dX12_sure_43 rfl ?_
  refine j_icmp_ge (tgt := 72) hc dX12_sure_44 rfl hf (fun hf => ?_) (fun hf => ?_)
  · refine j_iload_n hc dX12_sure_72 rfl ?_
    refine j_iconst (v := (-1 : Int32)) hc dX12_sure_73 ci_m1 ?_
    refine j_icmp_ne (tgt := 82) hc dX12_sure_74 rfl hf (fun hf => ?_) (fun hf => ?_)
    · refine j_iload_n hc dX12_sure_82 rfl ?_
      refine j_iload hc dX12_sure_83 rfl ?_
      refine j_iand hc dX12_sure_85 ?_
      exact j_sub (tX12_sure_b86 n d hc k15 hk15 _ _ _ _ _ hf) (And.intro rfl (And.intro rfl (And.intro rfl (trivial))))
    · refine j_iload hc dX12_sure_77 rfl ?_
      refine j_goto (tgt := 86) hc dX12_sure_79 rfl ?_
      exact j_sub (tX12_sure_b86 n d hc k15 hk15 _ _ _ _ _ hf) (And.intro rfl (And.intro rfl (And.intro rfl (trivial))))
  · refine j_iload hc dX12_sure_47 rfl ?_
    refine j_iconst (v := (1 : Int32)) hc dX12_sure_49 ci_1 ?_
    refine j_iload hc dX12_sure_50 rfl ?_
    refine j_bipush (v := (21 : Int32)) hc dX12_sure_52 cb_21 ?_
    refine j_irem hc dX12_sure_54 hf (fun hf => ?_)
    refine j_ishl hc dX12_sure_55 ?_
    refine j_ior hc dX12_sure_56 ?_
    refine j_istore hc dX12_sure_57 (Nat.le_of_ble_eq_true rfl) hf (fun v1 hf => ?_)
    refine j_iload hc dX12_sure_59 rfl ?_
    refine j_bipush (v := (21 : Int32)) hc dX12_sure_61 cb_21 ?_
    refine j_idiv hc dX12_sure_63 hf (fun hf => ?_)
    refine j_istore hc dX12_sure_64 (Nat.le_of_ble_eq_true rfl) hf (fun v2 hf => ?_)
    refine j_iinc (w := (1 : Int32)) hc dX12_sure_66 rfl ci_1 (Nat.le_of_ble_eq_true rfl) hf (fun v3 hf => ?_)
    refine j_goto (tgt := 41) hc dX12_sure_69 rfl ?_
    exact j_sub (hk41 _ _ _ _ _ _ _ _ hf) (And.intro rfl (And.intro rfl (And.intro rfl (And.intro rfl (And.intro rfl (And.intro rfl (And.intro rfl (trivial))))))))

def fX12_sure_b41 (n d : Nat) (k15 : Int32 → Int32 → Int32 → am_I → am_L → Option (Int32 × am_I × am_L)) : Nat → Int32 → Int32 → Int32 → Int32 → Int32 → Int32 → am_I → am_L → Option (Int32 × am_I × am_L)
  | 0 => fun _ _ _ _ _ _ _ _ => none
  | m + 1 => fX12_sure_b41w n d  k15 (fX12_sure_b41 n d k15 m)

set_option maxRecDepth 100000 in
theorem tX12_sure_b41 {x : am_X} (n d : Nat) (hc : am_ok x cX12_sure yX12_sure 7 (some .int) (d + 3) 0 0) {r : Int32} {I' : am_I} {L' : am_L} (k15 : Int32 → Int32 → Int32 → am_I → am_L → Option (Int32 × am_I × am_L)) (hk15 : ∀ (a1 : Int32) (a2 : Int32) (a3 : Int32) (I : am_I) (L : am_L), k15 a1 a2 a3 I L = some (r, I', L') → am_J x (fun S => S = (some (.int r), KM, RM, I', L')) 15 [some (.ref 0), some (.int a1), some (.int a2), some (.int a3), none, none, none] [] KM RM I L 0 0) (m : Nat) : ∀ (a1 : Int32) (a2 : Int32) (a3 : Int32) (a4 : Int32) (a5 : Int32) (a6 : Int32) (I : am_I) (L : am_L) (hf : fX12_sure_b41 n d k15 m a1 a2 a3 a4 a5 a6 I L = some (r, I', L')), am_J x (fun S => S = (some (.int r), KM, RM, I', L')) 41 [some (.ref 0), some (.int a1), some (.int a2), some (.int a3), some (.int a4), some (.int a5), some (.int a6)] [] KM RM I L 0 0 := by
  induction m with
  | zero => intro a1 a2 a3 a4 a5 a6 I L hf; exact (Option.some_ne_none _ hf.symm).elim
  | succ m ih => intro a1 a2 a3 a4 a5 a6 I L hf; exact tX12_sure_b41w n d hc k15 (fX12_sure_b41 n d k15 m) hk15 ih a1 a2 a3 a4 a5 a6 I L hf

set_option maxRecDepth 100000 in
def fX12_sure_b15w (n d : Nat) (k15 : Int32 → Int32 → Int32 → am_I → am_L → Option (Int32 × am_I × am_L)) (a1 : Int32) (a2 : Int32) (a3 : Int32) (I : am_I) (L : am_L) : Option (Int32 × am_I × am_L) :=
  am_b3 (fX12_power n d a1 I L) (fun v1 I1 L1 => if v1 ≤ a3 then
    (some (a2, I1, L1))
    else
    (am_b3 (fX12_isSoBy n d a3 a1 I1 L1) (fun v2 I2 L2 => if v2 = 0 then
      (fX12_sure_b87 n d k15 a1 a2 a3 I2 L2)
      else
      (am_lt (0 : Int32) (fun v3 => am_lt a3 (fun v4 => am_lt (0 : Int32) (fun v5 => fX12_sure_b41 n d k15 n a1 a2 a3 v3 v4 v5 I2 L2)))))))

set_option maxRecDepth 100000 in
set_option maxHeartbeats 4000000 in
theorem tX12_sure_b15w {x : am_X} (n d : Nat) (hc : am_ok x cX12_sure yX12_sure 7 (some .int) (d + 3) 0 0) {r : Int32} {I' : am_I} {L' : am_L} (k15 : Int32 → Int32 → Int32 → am_I → am_L → Option (Int32 × am_I × am_L)) (hk15 : ∀ (a1 : Int32) (a2 : Int32) (a3 : Int32) (I : am_I) (L : am_L), k15 a1 a2 a3 I L = some (r, I', L') → am_J x (fun S => S = (some (.int r), KM, RM, I', L')) 15 [some (.ref 0), some (.int a1), some (.int a2), some (.int a3), none, none, none] [] KM RM I L 0 0) (a1 : Int32) (a2 : Int32) (a3 : Int32) (I : am_I) (L : am_L) (hf : fX12_sure_b15w n d k15 a1 a2 a3 I L = some (r, I', L')) : am_J x (fun S => S = (some (.int r), KM, RM, I', L')) 15 [some (.ref 0), some (.int a1), some (.int a2), some (.int a3), none, none, none] [] KM RM I L 0 0 := by
  unfold fX12_sure_b15w at hf
  refine j_iload_n hc dX12_sure_15 rfl ?_
  refine j_iload_n hc dX12_sure_16 rfl ?_
  refine j_callSI (As := [.int a1]) hc dX12_sure_17 kw_2074 mX12_power  rfl (by omega) (Nat.le_of_ble_eq_true rfl) (Nat.le_of_ble_eq_true rfl) ⟨Nat.le_refl _, Nat.le_refl _⟩ hf (fun v I' L' h => qX12_power x.2.1 n d a1 I L v I' L' h) (fun v1 I1 L1 hf => ?_)
  refine j_icmp_ge (tgt := 93) hc dX12_sure_20 rfl hf (fun hf => ?_) (fun hf => ?_)
  · refine j_iload_n hc dX12_sure_93 rfl ?_
    exact j_ireturn hc dX12_sure_94 rfl rfl hf
  · refine j_aload_n hc dX12_sure_23 rfl ?_
    refine j_iload_n hc dX12_sure_24 rfl ?_
    refine j_iload_n hc dX12_sure_25 rfl ?_
    refine j_callVI (t := 0) (As := [.int a3, .int a1]) hc dX12_sure_26 kw_2077 mX12_isSoBy kM_0 clX12 rfl (by omega) (Nat.le_of_ble_eq_true rfl) (Nat.le_of_ble_eq_true rfl) ⟨Nat.le_refl _, Nat.le_refl _⟩ hf (fun v I' L' h => qX12_isSoBy x.2.1 n d a3 a1 I1 L1 v I' L' h) (fun v2 I2 L2 hf => ?_)
    refine j_if_eq (tgt := 87) hc dX12_sure_29 rfl hf (fun hf => ?_) (fun hf => ?_)
    · exact j_sub (tX12_sure_b87 n d hc k15 hk15 _ _ _ _ _ hf) (And.intro rfl (And.intro rfl (And.intro rfl (And.intro rfl (trivial)))))
    · refine j_iconst (v := (0 : Int32)) hc dX12_sure_32 ci_0 ?_
      refine j_istore hc dX12_sure_33 (Nat.le_of_ble_eq_true rfl) hf (fun v3 hf => ?_)
      refine j_iload_n hc dX12_sure_35 rfl ?_
      refine j_istore hc dX12_sure_36 (Nat.le_of_ble_eq_true rfl) hf (fun v4 hf => ?_)
      refine j_iconst (v := (0 : Int32)) hc dX12_sure_38 ci_0 ?_
      refine j_istore hc dX12_sure_39 (Nat.le_of_ble_eq_true rfl) hf (fun v5 hf => ?_)
      exact j_sub (tX12_sure_b41 n d hc k15 hk15 n _ _ _ _ _ _ _ _ hf) (And.intro rfl (And.intro rfl (And.intro rfl (And.intro rfl (And.intro rfl (And.intro rfl (And.intro rfl (trivial))))))))

def fX12_sure_b15 (n d : Nat) : Nat → Int32 → Int32 → Int32 → am_I → am_L → Option (Int32 × am_I × am_L)
  | 0 => fun _ _ _ _ _ => none
  | m + 1 => fX12_sure_b15w n d  (fX12_sure_b15 n d m)

set_option maxRecDepth 100000 in
theorem tX12_sure_b15 {x : am_X} (n d : Nat) (hc : am_ok x cX12_sure yX12_sure 7 (some .int) (d + 3) 0 0) {r : Int32} {I' : am_I} {L' : am_L} (m : Nat) : ∀ (a1 : Int32) (a2 : Int32) (a3 : Int32) (I : am_I) (L : am_L) (hf : fX12_sure_b15 n d m a1 a2 a3 I L = some (r, I', L')), am_J x (fun S => S = (some (.int r), KM, RM, I', L')) 15 [some (.ref 0), some (.int a1), some (.int a2), some (.int a3), none, none, none] [] KM RM I L 0 0 := by
  induction m with
  | zero => intro a1 a2 a3 I L hf; exact (Option.some_ne_none _ hf.symm).elim
  | succ m ih => intro a1 a2 a3 I L hf; exact tX12_sure_b15w n d hc (fX12_sure_b15 n d m) ih a1 a2 a3 I L hf

set_option maxRecDepth 100000 in
def fX12_sure (n d : Nat) (a1 : Int32) (I : am_I) (L : am_L) : Option (Int32 × am_I × am_L) :=
  am_b3 (fX12_in n d a1 (1 : Int32) (3 : Int32) I L) (fun v1 I1 L1 => if v1 = 0 then
    (some ((-1 : Int32), I1, L1))
    else
    (am_lt (-1 : Int32) (fun v2 => am_lt (0 : Int32) (fun v3 => fX12_sure_b15 n d n a1 v2 v3 I1 L1))))

set_option maxRecDepth 100000 in
set_option maxHeartbeats 4000000 in
theorem tX12_sure {x : am_X} (n d : Nat) (hc : am_ok x cX12_sure yX12_sure 7 (some .int) (d + 3) 0 0) {r : Int32} {I' : am_I} {L' : am_L} (a1 : Int32) (I : am_I) (L : am_L) (hf : fX12_sure n d a1 I L = some (r, I', L')) : am_J x (fun S => S = (some (.int r), KM, RM, I', L')) 0 [some (.ref 0), some (.int a1), none, none, none, none, none] [] KM RM I L 0 0 := by
  unfold fX12_sure at hf
  refine j_iload_n hc dX12_sure_0 rfl ?_
  refine j_iconst (v := (1 : Int32)) hc dX12_sure_1 ci_1 ?_
  refine j_iconst (v := (3 : Int32)) hc dX12_sure_2 ci_3 ?_
  refine j_callSI (As := [.int a1, .int (1 : Int32), .int (3 : Int32)]) hc dX12_sure_3 kw_1671 mX12_in  rfl (by omega) (Nat.le_of_ble_eq_true rfl) (Nat.le_of_ble_eq_true rfl) ⟨Nat.le_refl _, Nat.le_refl _⟩ hf (fun v I' L' h => qX12_in x.2.1 n d a1 (1 : Int32) (3 : Int32) I L v I' L' h) (fun v1 I1 L1 hf => ?_)
  refine j_if_ne (tgt := 11) hc dX12_sure_6 rfl hf (fun hf => ?_) (fun hf => ?_)
  · refine j_iconst (v := (-1 : Int32)) hc dX12_sure_11 ci_m1 ?_
    refine j_istore_n hc dX12_sure_12 (Nat.le_of_ble_eq_true rfl) hf (fun v2 hf => ?_)
    refine j_iconst (v := (0 : Int32)) hc dX12_sure_13 ci_0 ?_
    refine j_istore_n hc dX12_sure_14 (Nat.le_of_ble_eq_true rfl) hf (fun v3 hf => ?_)
    exact j_sub (tX12_sure_b15 n d hc n _ _ _ _ _ hf) (And.intro rfl (And.intro rfl (And.intro rfl (And.intro rfl (trivial)))))
  · refine j_iconst (v := (-1 : Int32)) hc dX12_sure_9 ci_m1 ?_
    exact j_ireturn hc dX12_sure_10 rfl rfl hf

set_option maxRecDepth 100000 in
theorem qX12_sure (l : Launch) (n d : Nat) (a1 : Int32) (I : am_I) (L : am_L) (r : Int32) (I' : am_I) (L' : am_L) (hf : fX12_sure n d a1 I L = some (r, I', L')) : am_C l yX12_sure cX12_sure 7 (some .int) (d + 3) [.ref 0, .int a1] KM RM I L (some (.int r)) I' L' := by
  exact am_intro (plainFor_of_name plX12) (fun _ _ => trivial) (Nat.le_of_ble_eq_true rfl) (fun x hl hc => by subst hl; exact j_sub (tX12_sure n d hc _ _ _ hf) (And.intro rfl (And.intro rfl (trivial))))
set_option maxRecDepth 100000 in
def fX12_weary_b60 (n d : Nat) (k9 : Int32 → Int32 → Int32 → am_I → am_L → Option (Int32 × am_I × am_L)) (s0 : Int32) (a1 : Int32) (a3 : Int32) (I : am_I) (L : am_L) : Option (Int32 × am_I × am_L) :=
  am_lt s0 (fun v1 => am_lt (a3 + (1 : Int32)) (fun v2 => k9 a1 v1 v2 I L))

set_option maxRecDepth 100000 in
set_option maxHeartbeats 4000000 in
theorem tX12_weary_b60 {x : am_X} (n d : Nat) (hc : am_ok x cX12_weary yX12_weary 4 (some .int) (d + 9) 0 0) {r : Int32} {I' : am_I} {L' : am_L} (k9 : Int32 → Int32 → Int32 → am_I → am_L → Option (Int32 × am_I × am_L)) (hk9 : ∀ (a1 : Int32) (a2 : Int32) (a3 : Int32) (I : am_I) (L : am_L), k9 a1 a2 a3 I L = some (r, I', L') → am_J x (fun S => S = (some (.int r), KM, RM, I', L')) 9 [some (.ref 0), some (.int a1), some (.int a2), some (.int a3)] [] KM RM I L 0 0) (s0 : Int32) (a1 : Int32) (a3 : Int32) (I : am_I) (L : am_L) (hf : fX12_weary_b60 n d k9 s0 a1 a3 I L = some (r, I', L')) : am_J x (fun S => S = (some (.int r), KM, RM, I', L')) 60 [some (.ref 0), some (.int a1), none, some (.int a3)] [.int s0] KM RM I L 0 0 := by
  unfold fX12_weary_b60 at hf
  refine j_istore_n hc dX12_weary_60 (Nat.le_of_ble_eq_true rfl) hf (fun v1 hf => ?_)
  refine j_iinc (w := (1 : Int32)) hc dX12_weary_61 rfl ci_1 (Nat.le_of_ble_eq_true rfl) hf (fun v2 hf => ?_)
  refine j_goto (tgt := 9) hc dX12_weary_64 rfl ?_
  exact j_sub (hk9 _ _ _ _ _ hf) (And.intro rfl (And.intro rfl (And.intro rfl (And.intro rfl (trivial)))))

set_option maxRecDepth 100000 in
def fX12_weary_b59 (n d : Nat) (k9 : Int32 → Int32 → Int32 → am_I → am_L → Option (Int32 × am_I × am_L)) (a1 : Int32) (a2 : Int32) (a3 : Int32) (I : am_I) (L : am_L) : Option (Int32 × am_I × am_L) :=
  fX12_weary_b60 n d k9 a2 a1 a3 I L

set_option maxRecDepth 100000 in
set_option maxHeartbeats 4000000 in
theorem tX12_weary_b59 {x : am_X} (n d : Nat) (hc : am_ok x cX12_weary yX12_weary 4 (some .int) (d + 9) 0 0) {r : Int32} {I' : am_I} {L' : am_L} (k9 : Int32 → Int32 → Int32 → am_I → am_L → Option (Int32 × am_I × am_L)) (hk9 : ∀ (a1 : Int32) (a2 : Int32) (a3 : Int32) (I : am_I) (L : am_L), k9 a1 a2 a3 I L = some (r, I', L') → am_J x (fun S => S = (some (.int r), KM, RM, I', L')) 9 [some (.ref 0), some (.int a1), some (.int a2), some (.int a3)] [] KM RM I L 0 0) (a1 : Int32) (a2 : Int32) (a3 : Int32) (I : am_I) (L : am_L) (hf : fX12_weary_b59 n d k9 a1 a2 a3 I L = some (r, I', L')) : am_J x (fun S => S = (some (.int r), KM, RM, I', L')) 59 [some (.ref 0), some (.int a1), some (.int a2), some (.int a3)] [] KM RM I L 0 0 := by
  unfold fX12_weary_b59 at hf
  refine j_iload_n hc dX12_weary_59 rfl ?_
  exact j_sub (tX12_weary_b60 n d hc k9 hk9 _ _ _ _ _ hf) (And.intro rfl (And.intro rfl (And.intro rfl (trivial))))

set_option maxRecDepth 100000 in
def fX12_weary_b55 (n d : Nat) (k9 : Int32 → Int32 → Int32 → am_I → am_L → Option (Int32 × am_I × am_L)) (a1 : Int32) (a3 : Int32) (I : am_I) (L : am_L) : Option (Int32 × am_I × am_L) :=
  fX12_weary_b60 n d k9 a3 a1 a3 I L

set_option maxRecDepth 100000 in
set_option maxHeartbeats 4000000 in
theorem tX12_weary_b55 {x : am_X} (n d : Nat) (hc : am_ok x cX12_weary yX12_weary 4 (some .int) (d + 9) 0 0) {r : Int32} {I' : am_I} {L' : am_L} (k9 : Int32 → Int32 → Int32 → am_I → am_L → Option (Int32 × am_I × am_L)) (hk9 : ∀ (a1 : Int32) (a2 : Int32) (a3 : Int32) (I : am_I) (L : am_L), k9 a1 a2 a3 I L = some (r, I', L') → am_J x (fun S => S = (some (.int r), KM, RM, I', L')) 9 [some (.ref 0), some (.int a1), some (.int a2), some (.int a3)] [] KM RM I L 0 0) (a1 : Int32) (a3 : Int32) (I : am_I) (L : am_L) (hf : fX12_weary_b55 n d k9 a1 a3 I L = some (r, I', L')) : am_J x (fun S => S = (some (.int r), KM, RM, I', L')) 55 [some (.ref 0), some (.int a1), none, some (.int a3)] [] KM RM I L 0 0 := by
  unfold fX12_weary_b55 at hf
  refine j_iload_n hc dX12_weary_55 rfl ?_
  refine j_goto (tgt := 60) hc dX12_weary_56 rfl ?_
  exact j_sub (tX12_weary_b60 n d hc k9 hk9 _ _ _ _ _ hf) (And.intro rfl (And.intro rfl (And.intro rfl (trivial))))

set_option maxRecDepth 100000 in
def fX12_weary_b9w (n d : Nat) (k9 : Int32 → Int32 → Int32 → am_I → am_L → Option (Int32 × am_I × am_L)) (a1 : Int32) (a2 : Int32) (a3 : Int32) (I : am_I) (L : am_L) : Option (Int32 × am_I × am_L) :=
  if (I 0 25) ≤ a3 then
    (some (a2, I, L))
    else
    (am_b3 (fX12_has n d a1 a3 I L) (fun v1 I1 L1 => if v1 = 0 then
      (if a2 = (-1 : Int32) then
        (fX12_weary_b55 n d k9 a1 a3 I1 L1)
        else
        (am_ck (((6 : Int32) * a3) + (4 : Int32)) 48 (am_lt (I1 14 ((((6 : Int32) * a3) + (4 : Int32))).toNatClampNeg) (fun v2 => am_ck (((6 : Int32) * a2) + (4 : Int32)) 48 (am_lt (I1 14 ((((6 : Int32) * a2) + (4 : Int32))).toNatClampNeg) (fun v3 => if v2 ≤ v3 then
          (fX12_weary_b59 n d k9 a1 a2 a3 I1 L1)
          else
          (fX12_weary_b55 n d k9 a1 a3 I1 L1)))))))
      else
      (fX12_weary_b59 n d k9 a1 a2 a3 I1 L1)))

set_option maxRecDepth 100000 in
set_option maxHeartbeats 4000000 in
theorem tX12_weary_b9w {x : am_X} (n d : Nat) (hc : am_ok x cX12_weary yX12_weary 4 (some .int) (d + 9) 0 0) {r : Int32} {I' : am_I} {L' : am_L} (k9 : Int32 → Int32 → Int32 → am_I → am_L → Option (Int32 × am_I × am_L)) (hk9 : ∀ (a1 : Int32) (a2 : Int32) (a3 : Int32) (I : am_I) (L : am_L), k9 a1 a2 a3 I L = some (r, I', L') → am_J x (fun S => S = (some (.int r), KM, RM, I', L')) 9 [some (.ref 0), some (.int a1), some (.int a2), some (.int a3)] [] KM RM I L 0 0) (a1 : Int32) (a2 : Int32) (a3 : Int32) (I : am_I) (L : am_L) (hf : fX12_weary_b9w n d k9 a1 a2 a3 I L = some (r, I', L')) : am_J x (fun S => S = (some (.int r), KM, RM, I', L')) 9 [some (.ref 0), some (.int a1), some (.int a2), some (.int a3)] [] KM RM I L 0 0 := by
  unfold fX12_weary_b9w at hf
  refine j_iload_n hc dX12_weary_9 rfl ?_
  refine j_aload_n hc dX12_weary_10 rfl ?_
  refine j_getI hc dX12_weary_11 fgM_X12_250_0 ?_
  refine j_icmp_ge (tgt := 67) hc dX12_weary_14 rfl hf (fun hf => ?_) (fun hf => ?_)
  · refine j_iload_n hc dX12_weary_67 rfl ?_
    exact j_ireturn hc dX12_weary_68 rfl rfl hf
  · refine j_iload_n hc dX12_weary_17 rfl ?_
    refine j_iload_n hc dX12_weary_18 rfl ?_
    refine j_callSI (As := [.int a1, .int a3]) hc dX12_weary_19 kw_1651 mX12_has  rfl (by omega) (Nat.le_of_ble_eq_true rfl) (Nat.le_of_ble_eq_true rfl) ⟨Nat.le_refl _, Nat.le_refl _⟩ hf (fun v I' L' h => qX12_has x.2.1 n d a1 a3 I L v I' L' h) (fun v1 I1 L1 hf => ?_)
    refine j_if_ne (tgt := 59) hc dX12_weary_22 rfl hf (fun hf => ?_) (fun hf => ?_)
    · exact j_sub (tX12_weary_b59 n d hc k9 hk9 _ _ _ _ _ hf) (And.intro rfl (And.intro rfl (And.intro rfl (And.intro rfl (trivial)))))
    · refine j_iload_n hc dX12_weary_25 rfl ?_
      refine j_iconst (v := (-1 : Int32)) hc dX12_weary_26 ci_m1 ?_
      refine j_icmp_eq (tgt := 55) hc dX12_weary_27 rfl hf (fun hf => ?_) (fun hf => ?_)
      · exact j_sub (tX12_weary_b55 n d hc k9 hk9 _ _ _ _ hf) (And.intro rfl (And.intro rfl (And.intro rfl (trivial))))
      · refine j_aload_n hc dX12_weary_30 rfl ?_
        refine j_getR (u := 14) hc dX12_weary_31 fgM_X12_49_0 rM_0_22 ?_
        refine j_bipush (v := (6 : Int32)) hc dX12_weary_34 cb_6 ?_
        refine j_iload_n hc dX12_weary_36 rfl ?_
        refine j_imul hc dX12_weary_37 ?_
        refine j_iconst (v := (4 : Int32)) hc dX12_weary_38 ci_4 ?_
        refine j_iadd hc dX12_weary_39 ?_
        refine j_iaload (n := 48) hc dX12_weary_40 kM_14 hf (fun v2 hf => ?_)
        refine j_aload_n hc dX12_weary_41 rfl ?_
        refine j_getR (u := 14) hc dX12_weary_42 fgM_X12_49_0 rM_0_22 ?_
        refine j_bipush (v := (6 : Int32)) hc dX12_weary_45 cb_6 ?_
        refine j_iload_n hc dX12_weary_47 rfl ?_
        refine j_imul hc dX12_weary_48 ?_
        refine j_iconst (v := (4 : Int32)) hc dX12_weary_49 ci_4 ?_
        refine j_iadd hc dX12_weary_50 ?_
        refine j_iaload (n := 48) hc dX12_weary_51 kM_14 hf (fun v3 hf => ?_)
        refine j_icmp_le (tgt := 59) hc dX12_weary_52 rfl hf (fun hf => ?_) (fun hf => ?_)
        · exact j_sub (tX12_weary_b59 n d hc k9 hk9 _ _ _ _ _ hf) (And.intro rfl (And.intro rfl (And.intro rfl (And.intro rfl (trivial)))))
        · exact j_sub (tX12_weary_b55 n d hc k9 hk9 _ _ _ _ hf) (And.intro rfl (And.intro rfl (And.intro rfl (trivial))))

def fX12_weary_b9 (n d : Nat) : Nat → Int32 → Int32 → Int32 → am_I → am_L → Option (Int32 × am_I × am_L)
  | 0 => fun _ _ _ _ _ => none
  | m + 1 => fX12_weary_b9w n d  (fX12_weary_b9 n d m)

set_option maxRecDepth 100000 in
theorem tX12_weary_b9 {x : am_X} (n d : Nat) (hc : am_ok x cX12_weary yX12_weary 4 (some .int) (d + 9) 0 0) {r : Int32} {I' : am_I} {L' : am_L} (m : Nat) : ∀ (a1 : Int32) (a2 : Int32) (a3 : Int32) (I : am_I) (L : am_L) (hf : fX12_weary_b9 n d m a1 a2 a3 I L = some (r, I', L')), am_J x (fun S => S = (some (.int r), KM, RM, I', L')) 9 [some (.ref 0), some (.int a1), some (.int a2), some (.int a3)] [] KM RM I L 0 0 := by
  induction m with
  | zero => intro a1 a2 a3 I L hf; exact (Option.some_ne_none _ hf.symm).elim
  | succ m ih => intro a1 a2 a3 I L hf; exact tX12_weary_b9w n d hc (fX12_weary_b9 n d m) ih a1 a2 a3 I L hf

set_option maxRecDepth 100000 in
def fX12_weary (n d : Nat) (I : am_I) (L : am_L) : Option (Int32 × am_I × am_L) :=
  am_b3 (fX12_atHome n d I L) (fun v1 I1 L1 => am_lt v1 (fun v2 => am_lt (-1 : Int32) (fun v3 => am_lt (0 : Int32) (fun v4 => fX12_weary_b9 n d n v2 v3 v4 I1 L1))))

set_option maxRecDepth 100000 in
set_option maxHeartbeats 4000000 in
theorem tX12_weary {x : am_X} (n d : Nat) (hc : am_ok x cX12_weary yX12_weary 4 (some .int) (d + 9) 0 0) {r : Int32} {I' : am_I} {L' : am_L} (I : am_I) (L : am_L) (hf : fX12_weary n d I L = some (r, I', L')) : am_J x (fun S => S = (some (.int r), KM, RM, I', L')) 0 [some (.ref 0), none, none, none] [] KM RM I L 0 0 := by
  unfold fX12_weary at hf
  refine j_aload_n hc dX12_weary_0 rfl ?_
  refine j_callVI (t := 0) (As := []) hc dX12_weary_1 kw_1822 mX12_atHome kM_0 clX12 rfl (by omega) (Nat.le_of_ble_eq_true rfl) (Nat.le_of_ble_eq_true rfl) ⟨Nat.le_refl _, Nat.le_refl _⟩ hf (fun v I' L' h => qX12_atHome x.2.1 n d I L v I' L' h) (fun v1 I1 L1 hf => ?_)
  refine j_istore_n hc dX12_weary_4 (Nat.le_of_ble_eq_true rfl) hf (fun v2 hf => ?_)
  refine j_iconst (v := (-1 : Int32)) hc dX12_weary_5 ci_m1 ?_
  refine j_istore_n hc dX12_weary_6 (Nat.le_of_ble_eq_true rfl) hf (fun v3 hf => ?_)
  refine j_iconst (v := (0 : Int32)) hc dX12_weary_7 ci_0 ?_
  refine j_istore_n hc dX12_weary_8 (Nat.le_of_ble_eq_true rfl) hf (fun v4 hf => ?_)
  exact j_sub (tX12_weary_b9 n d hc n _ _ _ _ _ hf) (And.intro rfl (And.intro rfl (And.intro rfl (And.intro rfl (trivial)))))

set_option maxRecDepth 100000 in
theorem qX12_weary (l : Launch) (n d : Nat) (I : am_I) (L : am_L) (r : Int32) (I' : am_I) (L' : am_L) (hf : fX12_weary n d I L = some (r, I', L')) : am_C l yX12_weary cX12_weary 4 (some .int) (d + 9) [.ref 0] KM RM I L (some (.int r)) I' L' := by
  exact am_intro (plainFor_of_name plX12) (fun _ _ => trivial) (Nat.le_of_ble_eq_true rfl) (fun x hl hc => by subst hl; exact j_sub (tX12_weary n d hc  _ _ hf) (And.intro rfl (trivial)))
