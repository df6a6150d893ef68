set_option maxRecDepth 100000 in
def fX12_letterOf (n d : Nat) (a0 : Int32) (I : am_I) (L : am_L) : Option (Int32 × am_I × am_L) :=
  if a0 = (100 : Int32) then
    (some ((0 : Int32), I, L))
    else
    (if a0 = (98 : Int32) then
      (some ((1 : Int32), I, L))
      else
      (if a0 = (110 : Int32) then
        (some ((2 : Int32), I, L))
        else
        (if a0 = (105 : Int32) then
          (some ((3 : Int32), I, L))
          else
          (if a0 = (121 : Int32) then
            (some ((4 : Int32), I, L))
            else
            (if a0 = (115 : Int32) then
              (some ((5 : Int32), I, L))
              else
              (some ((-1 : Int32), I, L)))))))

set_option maxRecDepth 100000 in
set_option maxHeartbeats 4000000 in
theorem tX12_letterOf {x : am_X} (n d : Nat) (hc : am_ok x cX12_letterOf yX12_letterOf 1 (some .int) (d + 1) 0 0) {r : Int32} {I' : am_I} {L' : am_L} (a0 : Int32) (I : am_I) (L : am_L) (hf : fX12_letterOf n d a0 I L = some (r, I', L')) : am_J x (fun S => S = (some (.int r), KM, RM, I', L')) 0 [some (.int a0)] [] KM RM I L 0 0 := by
  unfold fX12_letterOf at hf
  refine j_iload_n hc dX12_letterOf_0 rfl ?_
  refine j_bipush (v := (100 : Int32)) hc dX12_letterOf_1 cb_100 ?_
  refine j_icmp_ne (tgt := 10) hc dX12_letterOf_3 rfl hf (fun hf => ?_) (fun hf => ?_)
  · refine j_iload_n hc dX12_letterOf_10 rfl ?_
    refine j_bipush (v := (98 : Int32)) hc dX12_letterOf_11 cb_98 ?_
    refine j_icmp_ne (tgt := 20) hc dX12_letterOf_13 rfl hf (fun hf => ?_) (fun hf => ?_)
    · refine j_iload_n hc dX12_letterOf_20 rfl ?_
      refine j_bipush (v := (110 : Int32)) hc dX12_letterOf_21 cb_110 ?_
      refine j_icmp_ne (tgt := 30) hc dX12_letterOf_23 rfl hf (fun hf => ?_) (fun hf => ?_)
      · refine j_iload_n hc dX12_letterOf_30 rfl ?_
        refine j_bipush (v := (105 : Int32)) hc dX12_letterOf_31 cb_105 ?_
        refine j_icmp_ne (tgt := 40) hc dX12_letterOf_33 rfl hf (fun hf => ?_) (fun hf => ?_)
        · refine j_iload_n hc dX12_letterOf_40 rfl ?_
          refine j_bipush (v := (121 : Int32)) hc dX12_letterOf_41 cb_121 ?_
          refine j_icmp_ne (tgt := 50) hc dX12_letterOf_43 rfl hf (fun hf => ?_) (fun hf => ?_)
          · refine j_iload_n hc dX12_letterOf_50 rfl ?_
            refine j_bipush (v := (115 : Int32)) hc dX12_letterOf_51 cb_115 ?_
            refine j_icmp_ne (tgt := 60) hc dX12_letterOf_53 rfl hf (fun hf => ?_) (fun hf => ?_)
            · refine j_iconst (v := (-1 : Int32)) hc dX12_letterOf_60 ci_m1 ?_
              exact j_ireturn hc dX12_letterOf_61 rfl rfl hf
            · refine j_iconst (v := (5 : Int32)) hc dX12_letterOf_56 ci_5 ?_
              refine j_goto (tgt := 61) hc dX12_letterOf_57 rfl ?_
              exact j_ireturn hc dX12_letterOf_61 rfl rfl hf
          · refine j_iconst (v := (4 : Int32)) hc dX12_letterOf_46 ci_4 ?_
            refine j_goto (tgt := 61) hc dX12_letterOf_47 rfl ?_
            exact j_ireturn hc dX12_letterOf_61 rfl rfl hf
        · refine j_iconst (v := (3 : Int32)) hc dX12_letterOf_36 ci_3 ?_
          refine j_goto (tgt := 61) hc dX12_letterOf_37 rfl ?_
          exact j_ireturn hc dX12_letterOf_61 rfl rfl hf
      · refine j_iconst (v := (2 : Int32)) hc dX12_letterOf_26 ci_2 ?_
        refine j_goto (tgt := 61) hc dX12_letterOf_27 rfl ?_
        exact j_ireturn hc dX12_letterOf_61 rfl rfl hf
    · refine j_iconst (v := (1 : Int32)) hc dX12_letterOf_16 ci_1 ?_
      refine j_goto (tgt := 61) hc dX12_letterOf_17 rfl ?_
      exact j_ireturn hc dX12_letterOf_61 rfl rfl hf
  · refine j_iconst (v := (0 : Int32)) hc dX12_letterOf_6 ci_0 ?_
    refine j_goto (tgt := 61) hc dX12_letterOf_7 rfl ?_
    exact j_ireturn hc dX12_letterOf_61 rfl rfl hf

set_option maxRecDepth 100000 in
theorem qX12_letterOf (l : Launch) (n d : Nat) (a0 : Int32) (I : am_I) (L : am_L) (r : Int32) (I' : am_I) (L' : am_L) (hf : fX12_letterOf n d a0 I L = some (r, I', L')) : am_C l yX12_letterOf cX12_letterOf 1 (some .int) (d + 1) [.int a0] KM RM I L (some (.int r)) I' L' := by
  exact am_intro (plainFor_of_name plX12) (fun _ _ => trivial) (Nat.le_of_ble_eq_true rfl) (fun x hl hc => by subst hl; exact j_sub (tX12_letterOf n d hc _ _ _ hf) (And.intro rfl (trivial)))
set_option maxRecDepth 100000 in
def fX12_sum_b79 (n d : Nat) (g : Nat → Int32 → Int32 → Int32 → Int32 → Int32 → am_I → am_L → Option (Int32 × am_I × am_L)) (k21 : Int32 → am_I → am_L → Option (am_I × am_L)) (s0 : Int32) (I : am_I) (L : am_L) : Option (am_I × am_L) :=
  am_lt s0 (fun v1 => k21 v1 I L)

set_option maxRecDepth 100000 in
set_option maxHeartbeats 4000000 in
theorem tX12_sum_b79 {x : am_X} (n d : Nat) (g : Nat → Int32 → Int32 → Int32 → Int32 → Int32 → am_I → am_L → Option (Int32 × am_I × am_L)) (hg : ∀ (w : Nat) (e1 e2 e3 e4 e5 : Int32) (I : am_I) (L : am_L) (v : Int32) (I' : am_I) (L' : am_L), g w e1 e2 e3 e4 e5 I L = some (v, I', L') → (w = 0 → am_C x.2.1 yX12_sum cX12_sum 2 none (d + 4) [.ref 0] KM RM I L none I' L') ∧ (w = 1 → am_C x.2.1 yX12_term cX12_term 2 none (d + 4) [.ref 0] KM RM I L none I' L') ∧ (w = 2 → am_C x.2.1 yX12_atom cX12_atom 2 none (d + 4) [.ref 0] KM RM I L none I' L')) (hc : am_ok x cX12_sum yX12_sum 2 none (d + 5) 0 0) {I' : am_I} {L' : am_L} (k21 : Int32 → am_I → am_L → Option (am_I × am_L)) (hk21 : ∀ (a1 : Int32) (I : am_I) (L : am_L), k21 a1 I L = some (I', L') → am_J x (fun S => S = (none, KM, RM, I', L')) 21 [some (.ref 0), some (.int a1)] [] KM RM I L 0 0) (s0 : Int32) (I : am_I) (L : am_L) (hf : fX12_sum_b79 n d g k21 s0 I L = some (I', L')) : am_J x (fun S => S = (none, KM, RM, I', L')) 79 [some (.ref 0), none] [.int s0] KM RM I L 0 0 := by
  unfold fX12_sum_b79 at hf
  refine j_istore_n hc dX12_sum_79 (Nat.le_of_ble_eq_true rfl) hf (fun v1 hf => ?_)
  refine j_goto (tgt := 21) hc dX12_sum_80 rfl ?_
  exact j_sub (hk21 _ _ _ hf) (And.intro rfl (And.intro rfl (trivial)))

set_option maxRecDepth 100000 in
def fX12_sum_b59 (n d : Nat) (g : Nat → Int32 → Int32 → Int32 → Int32 → Int32 → am_I → am_L → Option (Int32 × am_I × am_L)) (k21 : Int32 → am_I → am_L → Option (am_I × am_L)) (s1 : Int32) (I : am_I) (L : am_L) : Option (am_I × am_L) :=
  am_b2 (fX12_put n d s1 (0 : Int32) I L) (fun I1 L1 => if (I1 0 4) = (-1 : Int32) then
    (am_b3 (fX12_look n d I1 L1) (fun v2 I2 L2 => fX12_sum_b79 n d g k21 v2 I2 L2))
    else
    (fX12_sum_b79 n d g k21 (-1 : Int32) I1 L1))

set_option maxRecDepth 100000 in
set_option maxHeartbeats 4000000 in
theorem tX12_sum_b59 {x : am_X} (n d : Nat) (g : Nat → Int32 → Int32 → Int32 → Int32 → Int32 → am_I → am_L → Option (Int32 × am_I × am_L)) (hg : ∀ (w : Nat) (e1 e2 e3 e4 e5 : Int32) (I : am_I) (L : am_L) (v : Int32) (I' : am_I) (L' : am_L), g w e1 e2 e3 e4 e5 I L = some (v, I', L') → (w = 0 → am_C x.2.1 yX12_sum cX12_sum 2 none (d + 4) [.ref 0] KM RM I L none I' L') ∧ (w = 1 → am_C x.2.1 yX12_term cX12_term 2 none (d + 4) [.ref 0] KM RM I L none I' L') ∧ (w = 2 → am_C x.2.1 yX12_atom cX12_atom 2 none (d + 4) [.ref 0] KM RM I L none I' L')) (hc : am_ok x cX12_sum yX12_sum 2 none (d + 5) 0 0) {I' : am_I} {L' : am_L} (k21 : Int32 → am_I → am_L → Option (am_I × am_L)) (hk21 : ∀ (a1 : Int32) (I : am_I) (L : am_L), k21 a1 I L = some (I', L') → am_J x (fun S => S = (none, KM, RM, I', L')) 21 [some (.ref 0), some (.int a1)] [] KM RM I L 0 0) (s1 : Int32) (I : am_I) (L : am_L) (hf : fX12_sum_b59 n d g k21 s1 I L = some (I', L')) : am_J x (fun S => S = (none, KM, RM, I', L')) 59 [some (.ref 0), none] [.int s1, .ref 0] KM RM I L 0 0 := by
  unfold fX12_sum_b59 at hf
  refine j_iconst (v := (0 : Int32)) hc dX12_sum_59 ci_0 ?_
  refine j_callVV (t := 0) (As := [.int s1, .int (0 : Int32)]) hc dX12_sum_60 kw_1702 mX12_put kM_0 clX12 rfl (by omega) (Nat.le_of_ble_eq_true rfl) (Nat.le_of_ble_eq_true rfl) ⟨Nat.le_refl _, Nat.le_refl _⟩ hf (fun I' L' h => qX12_put x.2.1 n d s1 (0 : Int32) I L I' L' h) (fun I1 L1 hf => ?_)
  refine j_aload_n hc dX12_sum_63 rfl ?_
  refine j_getI hc dX12_sum_64 fgM_X12_108_0 ?_
  refine j_iconst (v := (-1 : Int32)) hc dX12_sum_67 ci_m1 ?_
  refine j_icmp_ne (tgt := 78) hc dX12_sum_68 rfl hf (fun hf => ?_) (fun hf => ?_)
  · refine j_iconst (v := (-1 : Int32)) hc dX12_sum_78 ci_m1 ?_
    exact j_sub (tX12_sum_b79 n d g hg hc k21 hk21 _ _ _ hf) (And.intro rfl (trivial))
  · refine j_aload_n hc dX12_sum_71 rfl ?_
    refine j_callVI (t := 0) (As := []) hc dX12_sum_72 kw_1636 mX12_look kM_0 clX12 rfl (by omega) (Nat.le_of_ble_eq_true rfl) (Nat.le_of_ble_eq_true rfl) ⟨Nat.le_refl _, Nat.le_refl _⟩ hf (fun v I' L' h => qX12_look x.2.1 n d I1 L1 v I' L' h) (fun v2 I2 L2 hf => ?_)
    refine j_goto (tgt := 79) hc dX12_sum_75 rfl ?_
    exact j_sub (tX12_sum_b79 n d g hg hc k21 hk21 _ _ _ hf) (And.intro rfl (trivial))

set_option maxRecDepth 100000 in
def fX12_sum_b33 (n d : Nat) (g : Nat → Int32 → Int32 → Int32 → Int32 → Int32 → am_I → am_L → Option (Int32 × am_I × am_L)) (k21 : Int32 → am_I → am_L → Option (am_I × am_L)) (a1 : Int32) (I : am_I) (L : am_L) : Option (am_I × am_L) :=
  am_lt (am_up I 0 3 ((I 0 3) + (1 : Int32))) (fun I1 => am_b3 (g 1 0 0 0 0 0 I1 L) (fun v2 I2 L2 => if a1 = (43 : Int32) then
    (fX12_sum_b59 n d g k21 (2 : Int32) I2 L2)
    else
    (fX12_sum_b59 n d g k21 (3 : Int32) I2 L2)))

set_option maxRecDepth 100000 in
set_option maxHeartbeats 4000000 in
theorem tX12_sum_b33 {x : am_X} (n d : Nat) (g : Nat → Int32 → Int32 → Int32 → Int32 → Int32 → am_I → am_L → Option (Int32 × am_I × am_L)) (hg : ∀ (w : Nat) (e1 e2 e3 e4 e5 : Int32) (I : am_I) (L : am_L) (v : Int32) (I' : am_I) (L' : am_L), g w e1 e2 e3 e4 e5 I L = some (v, I', L') → (w = 0 → am_C x.2.1 yX12_sum cX12_sum 2 none (d + 4) [.ref 0] KM RM I L none I' L') ∧ (w = 1 → am_C x.2.1 yX12_term cX12_term 2 none (d + 4) [.ref 0] KM RM I L none I' L') ∧ (w = 2 → am_C x.2.1 yX12_atom cX12_atom 2 none (d + 4) [.ref 0] KM RM I L none I' L')) (hc : am_ok x cX12_sum yX12_sum 2 none (d + 5) 0 0) {I' : am_I} {L' : am_L} (k21 : Int32 → am_I → am_L → Option (am_I × am_L)) (hk21 : ∀ (a1 : Int32) (I : am_I) (L : am_L), k21 a1 I L = some (I', L') → am_J x (fun S => S = (none, KM, RM, I', L')) 21 [some (.ref 0), some (.int a1)] [] KM RM I L 0 0) (a1 : Int32) (I : am_I) (L : am_L) (hf : fX12_sum_b33 n d g k21 a1 I L = some (I', L')) : am_J x (fun S => S = (none, KM, RM, I', L')) 33 [some (.ref 0), some (.int a1)] [] KM RM I L 0 0 := by
  unfold fX12_sum_b33 at hf
  refine j_aload_n hc dX12_sum_33 rfl ?_
  refine j_dup hc dX12_sum_34 rfl ?_
  refine j_getI hc dX12_sum_35 fgM_X12_101_0 ?_
  refine j_iconst (v := (1 : Int32)) hc dX12_sum_38 ci_1 ?_
  refine j_iadd hc dX12_sum_39 ?_
  refine j_putI hc dX12_sum_40 fpM_X12_101_0 rfl rfl hf (fun I1 hf => ?_)
  refine j_aload_n hc dX12_sum_43 rfl ?_
  refine j_callVW (t := 0) (As := []) hc dX12_sum_44 kw_1714 mX12_term kM_0 clX12 rfl (by omega) (Nat.le_of_ble_eq_true rfl) (Nat.le_of_ble_eq_true rfl) ⟨Nat.le_refl _, Nat.le_refl _⟩ hf (fun v I' L' h => (hg 1 _ _ _ _ _ _ _ _ _ _ h).2.1 rfl) (fun v2 I2 L2 hf => ?_)
  refine j_aload_n hc dX12_sum_47 rfl ?_
  refine j_iload_n hc dX12_sum_48 rfl ?_
  refine j_bipush (v := (43 : Int32)) hc dX12_sum_49 cb_43 ?_
  refine j_icmp_ne (tgt := 58) hc dX12_sum_51 rfl hf (fun hf => ?_) (fun hf => ?_)
  · refine j_iconst (v := (3 : Int32)) hc dX12_sum_58 ci_3 ?_
    exact j_sub (tX12_sum_b59 n d g hg hc k21 hk21 _ _ _ hf) (And.intro rfl (trivial))
  · refine j_iconst (v := (2 : Int32)) hc dX12_sum_54 ci_2 ?_
    refine j_goto (tgt := 59) hc dX12_sum_55 rfl ?_
    exact j_sub (tX12_sum_b59 n d g hg hc k21 hk21 _ _ _ hf) (And.intro rfl (trivial))

set_option maxRecDepth 100000 in
def fX12_sum_b21w (n d : Nat) (g : Nat → Int32 → Int32 → Int32 → Int32 → Int32 → am_I → am_L → Option (Int32 × am_I × am_L)) (k21 : Int32 → am_I → am_L → Option (am_I × am_L)) (a1 : Int32) (I : am_I) (L : am_L) : Option (am_I × am_L) :=
  if a1 = (43 : Int32) then
    (fX12_sum_b33 n d g k21 a1 I L)
    else
    (if a1 = (45 : Int32) then
      (fX12_sum_b33 n d g k21 a1 I L)
      else
      (some (I, L)))

set_option maxRecDepth 100000 in
set_option maxHeartbeats 4000000 in
theorem tX12_sum_b21w {x : am_X} (n d : Nat) (g : Nat → Int32 → Int32 → Int32 → Int32 → Int32 → am_I → am_L → Option (Int32 × am_I × am_L)) (hg : ∀ (w : Nat) (e1 e2 e3 e4 e5 : Int32) (I : am_I) (L : am_L) (v : Int32) (I' : am_I) (L' : am_L), g w e1 e2 e3 e4 e5 I L = some (v, I', L') → (w = 0 → am_C x.2.1 yX12_sum cX12_sum 2 none (d + 4) [.ref 0] KM RM I L none I' L') ∧ (w = 1 → am_C x.2.1 yX12_term cX12_term 2 none (d + 4) [.ref 0] KM RM I L none I' L') ∧ (w = 2 → am_C x.2.1 yX12_atom cX12_atom 2 none (d + 4) [.ref 0] KM RM I L none I' L')) (hc : am_ok x cX12_sum yX12_sum 2 none (d + 5) 0 0) {I' : am_I} {L' : am_L} (k21 : Int32 → am_I → am_L → Option (am_I × am_L)) (hk21 : ∀ (a1 : Int32) (I : am_I) (L : am_L), k21 a1 I L = some (I', L') → am_J x (fun S => S = (none, KM, RM, I', L')) 21 [some (.ref 0), some (.int a1)] [] KM RM I L 0 0) (a1 : Int32) (I : am_I) (L : am_L) (hf : fX12_sum_b21w n d g k21 a1 I L = some (I', L')) : am_J x (fun S => S = (none, KM, RM, I', L')) 21 [some (.ref 0), some (.int a1)] [] KM RM I L 0 0 := by
  unfold fX12_sum_b21w at hf
  refine j_iload_n hc dX12_sum_21 rfl ?_
  refine j_bipush (v := (43 : Int32)) hc dX12_sum_22 cb_43 ?_
  refine j_icmp_eq (tgt := 33) hc dX12_sum_24 rfl hf (fun hf => ?_) (fun hf => ?_)
  · exact j_sub (tX12_sum_b33 n d g hg hc k21 hk21 _ _ _ hf) (And.intro rfl (And.intro rfl (trivial)))
  · refine j_iload_n hc dX12_sum_27 rfl ?_
    refine j_bipush (v := (45 : Int32)) hc dX12_sum_28 cb_45 ?_
    refine j_icmp_ne (tgt := 83) hc dX12_sum_30 rfl hf (fun hf => ?_) (fun hf => ?_)
    · exact j_return hc dX12_sum_83 rfl rfl hf
    · exact j_sub (tX12_sum_b33 n d g hg hc k21 hk21 _ _ _ hf) (And.intro rfl (And.intro rfl (trivial)))

def fX12_sum_b21 (n d : Nat) (g : Nat → Int32 → Int32 → Int32 → Int32 → Int32 → am_I → am_L → Option (Int32 × am_I × am_L)) : Nat → Int32 → am_I → am_L → Option (am_I × am_L)
  | 0 => fun _ _ _ => none
  | m + 1 => fX12_sum_b21w n d g (fX12_sum_b21 n d g m)

set_option maxRecDepth 100000 in
theorem tX12_sum_b21 {x : am_X} (n d : Nat) (g : Nat → Int32 → Int32 → Int32 → Int32 → Int32 → am_I → am_L → Option (Int32 × am_I × am_L)) (hg : ∀ (w : Nat) (e1 e2 e3 e4 e5 : Int32) (I : am_I) (L : am_L) (v : Int32) (I' : am_I) (L' : am_L), g w e1 e2 e3 e4 e5 I L = some (v, I', L') → (w = 0 → am_C x.2.1 yX12_sum cX12_sum 2 none (d + 4) [.ref 0] KM RM I L none I' L') ∧ (w = 1 → am_C x.2.1 yX12_term cX12_term 2 none (d + 4) [.ref 0] KM RM I L none I' L') ∧ (w = 2 → am_C x.2.1 yX12_atom cX12_atom 2 none (d + 4) [.ref 0] KM RM I L none I' L')) (hc : am_ok x cX12_sum yX12_sum 2 none (d + 5) 0 0) {I' : am_I} {L' : am_L} (m : Nat) : ∀ (a1 : Int32) (I : am_I) (L : am_L) (hf : fX12_sum_b21 n d g m a1 I L = some (I', L')), am_J x (fun S => S = (none, KM, RM, I', L')) 21 [some (.ref 0), some (.int a1)] [] KM RM I L 0 0 := by
  induction m with
  | zero => intro a1 I L hf; exact (Option.some_ne_none _ hf.symm).elim
  | succ m ih => intro a1 I L hf; exact tX12_sum_b21w n d g hg hc (fX12_sum_b21 n d g m) ih a1 I L hf

set_option maxRecDepth 100000 in
def fX12_sum_b20 (n d : Nat) (g : Nat → Int32 → Int32 → Int32 → Int32 → Int32 → am_I → am_L → Option (Int32 × am_I × am_L)) (s0 : Int32) (I : am_I) (L : am_L) : Option (am_I × am_L) :=
  am_lt s0 (fun v1 => fX12_sum_b21 n d g n v1 I L)

set_option maxRecDepth 100000 in
set_option maxHeartbeats 4000000 in
theorem tX12_sum_b20 {x : am_X} (n d : Nat) (g : Nat → Int32 → Int32 → Int32 → Int32 → Int32 → am_I → am_L → Option (Int32 × am_I × am_L)) (hg : ∀ (w : Nat) (e1 e2 e3 e4 e5 : Int32) (I : am_I) (L : am_L) (v : Int32) (I' : am_I) (L' : am_L), g w e1 e2 e3 e4 e5 I L = some (v, I', L') → (w = 0 → am_C x.2.1 yX12_sum cX12_sum 2 none (d + 4) [.ref 0] KM RM I L none I' L') ∧ (w = 1 → am_C x.2.1 yX12_term cX12_term 2 none (d + 4) [.ref 0] KM RM I L none I' L') ∧ (w = 2 → am_C x.2.1 yX12_atom cX12_atom 2 none (d + 4) [.ref 0] KM RM I L none I' L')) (hc : am_ok x cX12_sum yX12_sum 2 none (d + 5) 0 0) {I' : am_I} {L' : am_L} (s0 : Int32) (I : am_I) (L : am_L) (hf : fX12_sum_b20 n d g s0 I L = some (I', L')) : am_J x (fun S => S = (none, KM, RM, I', L')) 20 [some (.ref 0), none] [.int s0] KM RM I L 0 0 := by
  unfold fX12_sum_b20 at hf
  refine j_istore_n hc dX12_sum_20 (Nat.le_of_ble_eq_true rfl) hf (fun v1 hf => ?_)
  exact j_sub (tX12_sum_b21 n d g hg hc n _ _ _ hf) (And.intro rfl (And.intro rfl (trivial)))

set_option maxRecDepth 100000 in
def fX12_sum_g (n d : Nat) (g : Nat → Int32 → Int32 → Int32 → Int32 → Int32 → am_I → am_L → Option (Int32 × am_I × am_L)) (I : am_I) (L : am_L) : Option (am_I × am_L) :=
  am_b3 (g 1 0 0 0 0 0 I L) (fun v1 I1 L1 => if (I1 0 4) = (-1 : Int32) then
    (am_b3 (fX12_look n d I1 L1) (fun v2 I2 L2 => fX12_sum_b20 n d g v2 I2 L2))
    else
    (fX12_sum_b20 n d g (-1 : Int32) I1 L1))

set_option maxRecDepth 100000 in
set_option maxHeartbeats 4000000 in
theorem tX12_sum_g {x : am_X} (n d : Nat) (g : Nat → Int32 → Int32 → Int32 → Int32 → Int32 → am_I → am_L → Option (Int32 × am_I × am_L)) (hg : ∀ (w : Nat) (e1 e2 e3 e4 e5 : Int32) (I : am_I) (L : am_L) (v : Int32) (I' : am_I) (L' : am_L), g w e1 e2 e3 e4 e5 I L = some (v, I', L') → (w = 0 → am_C x.2.1 yX12_sum cX12_sum 2 none (d + 4) [.ref 0] KM RM I L none I' L') ∧ (w = 1 → am_C x.2.1 yX12_term cX12_term 2 none (d + 4) [.ref 0] KM RM I L none I' L') ∧ (w = 2 → am_C x.2.1 yX12_atom cX12_atom 2 none (d + 4) [.ref 0] KM RM I L none I' L')) (hc : am_ok x cX12_sum yX12_sum 2 none (d + 5) 0 0) {I' : am_I} {L' : am_L} (I : am_I) (L : am_L) (hf : fX12_sum_g n d g I L = some (I', L')) : am_J x (fun S => S = (none, KM, RM, I', L')) 0 [some (.ref 0), none] [] KM RM I L 0 0 := by
  unfold fX12_sum_g at hf
  refine j_aload_n hc dX12_sum_0 rfl ?_
  refine j_callVW (t := 0) (As := []) hc dX12_sum_1 kw_1714 mX12_term kM_0 clX12 rfl (by omega) (Nat.le_of_ble_eq_true rfl) (Nat.le_of_ble_eq_true rfl) ⟨Nat.le_refl _, Nat.le_refl _⟩ hf (fun v I' L' h => (hg 1 _ _ _ _ _ _ _ _ _ _ h).2.1 rfl) (fun v1 I1 L1 hf => ?_)
  refine j_aload_n hc dX12_sum_4 rfl ?_
  refine j_getI hc dX12_sum_5 fgM_X12_108_0 ?_
  refine j_iconst (v := (-1 : Int32)) hc dX12_sum_8 ci_m1 ?_
  refine j_icmp_ne (tgt := 19) hc dX12_sum_9 rfl hf (fun hf => ?_) (fun hf => ?_)
  · refine j_iconst (v := (-1 : Int32)) hc dX12_sum_19 ci_m1 ?_
    exact j_sub (tX12_sum_b20 n d g hg hc _ _ _ hf) (And.intro rfl (trivial))
  · refine j_aload_n hc dX12_sum_12 rfl ?_
    refine j_callVI (t := 0) (As := []) hc dX12_sum_13 kw_1636 mX12_look kM_0 clX12 rfl (by omega) (Nat.le_of_ble_eq_true rfl) (Nat.le_of_ble_eq_true rfl) ⟨Nat.le_refl _, Nat.le_refl _⟩ hf (fun v I' L' h => qX12_look x.2.1 n d I1 L1 v I' L' h) (fun v2 I2 L2 hf => ?_)
    refine j_goto (tgt := 20) hc dX12_sum_16 rfl ?_
    exact j_sub (tX12_sum_b20 n d g hg hc _ _ _ hf) (And.intro rfl (trivial))

set_option maxRecDepth 100000 in
def fX12_term_b79 (n d : Nat) (g : Nat → Int32 → Int32 → Int32 → Int32 → Int32 → am_I → am_L → Option (Int32 × am_I × am_L)) (k21 : Int32 → am_I → am_L → Option (am_I × am_L)) (s0 : Int32) (I : am_I) (L : am_L) : Option (am_I × am_L) :=
  am_lt s0 (fun v1 => k21 v1 I L)

set_option maxRecDepth 100000 in
set_option maxHeartbeats 4000000 in
theorem tX12_term_b79 {x : am_X} (n d : Nat) (g : Nat → Int32 → Int32 → Int32 → Int32 → Int32 → am_I → am_L → Option (Int32 × am_I × am_L)) (hg : ∀ (w : Nat) (e1 e2 e3 e4 e5 : Int32) (I : am_I) (L : am_L) (v : Int32) (I' : am_I) (L' : am_L), g w e1 e2 e3 e4 e5 I L = some (v, I', L') → (w = 0 → am_C x.2.1 yX12_sum cX12_sum 2 none (d + 4) [.ref 0] KM RM I L none I' L') ∧ (w = 1 → am_C x.2.1 yX12_term cX12_term 2 none (d + 4) [.ref 0] KM RM I L none I' L') ∧ (w = 2 → am_C x.2.1 yX12_atom cX12_atom 2 none (d + 4) [.ref 0] KM RM I L none I' L')) (hc : am_ok x cX12_term yX12_term 2 none (d + 5) 0 0) {I' : am_I} {L' : am_L} (k21 : Int32 → am_I → am_L → Option (am_I × am_L)) (hk21 : ∀ (a1 : Int32) (I : am_I) (L : am_L), k21 a1 I L = some (I', L') → am_J x (fun S => S = (none, KM, RM, I', L')) 21 [some (.ref 0), some (.int a1)] [] KM RM I L 0 0) (s0 : Int32) (I : am_I) (L : am_L) (hf : fX12_term_b79 n d g k21 s0 I L = some (I', L')) : am_J x (fun S => S = (none, KM, RM, I', L')) 79 [some (.ref 0), none] [.int s0] KM RM I L 0 0 := by
  unfold fX12_term_b79 at hf
  refine j_istore_n hc dX12_term_79 (Nat.le_of_ble_eq_true rfl) hf (fun v1 hf => ?_)
  refine j_goto (tgt := 21) hc dX12_term_80 rfl ?_
  exact j_sub (hk21 _ _ _ hf) (And.intro rfl (And.intro rfl (trivial)))

set_option maxRecDepth 100000 in
def fX12_term_b59 (n d : Nat) (g : Nat → Int32 → Int32 → Int32 → Int32 → Int32 → am_I → am_L → Option (Int32 × am_I × am_L)) (k21 : Int32 → am_I → am_L → Option (am_I × am_L)) (s1 : Int32) (I : am_I) (L : am_L) : Option (am_I × am_L) :=
  am_b2 (fX12_put n d s1 (0 : Int32) I L) (fun I1 L1 => if (I1 0 4) = (-1 : Int32) then
    (am_b3 (fX12_look n d I1 L1) (fun v2 I2 L2 => fX12_term_b79 n d g k21 v2 I2 L2))
    else
    (fX12_term_b79 n d g k21 (-1 : Int32) I1 L1))

set_option maxRecDepth 100000 in
set_option maxHeartbeats 4000000 in
theorem tX12_term_b59 {x : am_X} (n d : Nat) (g : Nat → Int32 → Int32 → Int32 → Int32 → Int32 → am_I → am_L → Option (Int32 × am_I × am_L)) (hg : ∀ (w : Nat) (e1 e2 e3 e4 e5 : Int32) (I : am_I) (L : am_L) (v : Int32) (I' : am_I) (L' : am_L), g w e1 e2 e3 e4 e5 I L = some (v, I', L') → (w = 0 → am_C x.2.1 yX12_sum cX12_sum 2 none (d + 4) [.ref 0] KM RM I L none I' L') ∧ (w = 1 → am_C x.2.1 yX12_term cX12_term 2 none (d + 4) [.ref 0] KM RM I L none I' L') ∧ (w = 2 → am_C x.2.1 yX12_atom cX12_atom 2 none (d + 4) [.ref 0] KM RM I L none I' L')) (hc : am_ok x cX12_term yX12_term 2 none (d + 5) 0 0) {I' : am_I} {L' : am_L} (k21 : Int32 → am_I → am_L → Option (am_I × am_L)) (hk21 : ∀ (a1 : Int32) (I : am_I) (L : am_L), k21 a1 I L = some (I', L') → am_J x (fun S => S = (none, KM, RM, I', L')) 21 [some (.ref 0), some (.int a1)] [] KM RM I L 0 0) (s1 : Int32) (I : am_I) (L : am_L) (hf : fX12_term_b59 n d g k21 s1 I L = some (I', L')) : am_J x (fun S => S = (none, KM, RM, I', L')) 59 [some (.ref 0), none] [.int s1, .ref 0] KM RM I L 0 0 := by
  unfold fX12_term_b59 at hf
  refine j_iconst (v := (0 : Int32)) hc dX12_term_59 ci_0 ?_
  refine j_callVV (t := 0) (As := [.int s1, .int (0 : Int32)]) hc dX12_term_60 kw_1702 mX12_put kM_0 clX12 rfl (by omega) (Nat.le_of_ble_eq_true rfl) (Nat.le_of_ble_eq_true rfl) ⟨Nat.le_refl _, Nat.le_refl _⟩ hf (fun I' L' h => qX12_put x.2.1 n d s1 (0 : Int32) I L I' L' h) (fun I1 L1 hf => ?_)
  refine j_aload_n hc dX12_term_63 rfl ?_
  refine j_getI hc dX12_term_64 fgM_X12_108_0 ?_
  refine j_iconst (v := (-1 : Int32)) hc dX12_term_67 ci_m1 ?_
  refine j_icmp_ne (tgt := 78) hc dX12_term_68 rfl hf (fun hf => ?_) (fun hf => ?_)
  · refine j_iconst (v := (-1 : Int32)) hc dX12_term_78 ci_m1 ?_
    exact j_sub (tX12_term_b79 n d g hg hc k21 hk21 _ _ _ hf) (And.intro rfl (trivial))
  · refine j_aload_n hc dX12_term_71 rfl ?_
    refine j_callVI (t := 0) (As := []) hc dX12_term_72 kw_1636 mX12_look kM_0 clX12 rfl (by omega) (Nat.le_of_ble_eq_true rfl) (Nat.le_of_ble_eq_true rfl) ⟨Nat.le_refl _, Nat.le_refl _⟩ hf (fun v I' L' h => qX12_look x.2.1 n d I1 L1 v I' L' h) (fun v2 I2 L2 hf => ?_)
    refine j_goto (tgt := 79) hc dX12_term_75 rfl ?_
    exact j_sub (tX12_term_b79 n d g hg hc k21 hk21 _ _ _ hf) (And.intro rfl (trivial))

set_option maxRecDepth 100000 in
def fX12_term_b33 (n d : Nat) (g : Nat → Int32 → Int32 → Int32 → Int32 → Int32 → am_I → am_L → Option (Int32 × am_I × am_L)) (k21 : Int32 → am_I → am_L → Option (am_I × am_L)) (a1 : Int32) (I : am_I) (L : am_L) : Option (am_I × am_L) :=
  am_lt (am_up I 0 3 ((I 0 3) + (1 : Int32))) (fun I1 => am_b3 (g 2 0 0 0 0 0 I1 L) (fun v2 I2 L2 => if a1 = (42 : Int32) then
    (fX12_term_b59 n d g k21 (4 : Int32) I2 L2)
    else
    (fX12_term_b59 n d g k21 (5 : Int32) I2 L2)))

set_option maxRecDepth 100000 in
set_option maxHeartbeats 4000000 in
theorem tX12_term_b33 {x : am_X} (n d : Nat) (g : Nat → Int32 → Int32 → Int32 → Int32 → Int32 → am_I → am_L → Option (Int32 × am_I × am_L)) (hg : ∀ (w : Nat) (e1 e2 e3 e4 e5 : Int32) (I : am_I) (L : am_L) (v : Int32) (I' : am_I) (L' : am_L), g w e1 e2 e3 e4 e5 I L = some (v, I', L') → (w = 0 → am_C x.2.1 yX12_sum cX12_sum 2 none (d + 4) [.ref 0] KM RM I L none I' L') ∧ (w = 1 → am_C x.2.1 yX12_term cX12_term 2 none (d + 4) [.ref 0] KM RM I L none I' L') ∧ (w = 2 → am_C x.2.1 yX12_atom cX12_atom 2 none (d + 4) [.ref 0] KM RM I L none I' L')) (hc : am_ok x cX12_term yX12_term 2 none (d + 5) 0 0) {I' : am_I} {L' : am_L} (k21 : Int32 → am_I → am_L → Option (am_I × am_L)) (hk21 : ∀ (a1 : Int32) (I : am_I) (L : am_L), k21 a1 I L = some (I', L') → am_J x (fun S => S = (none, KM, RM, I', L')) 21 [some (.ref 0), some (.int a1)] [] KM RM I L 0 0) (a1 : Int32) (I : am_I) (L : am_L) (hf : fX12_term_b33 n d g k21 a1 I L = some (I', L')) : am_J x (fun S => S = (none, KM, RM, I', L')) 33 [some (.ref 0), some (.int a1)] [] KM RM I L 0 0 := by
  unfold fX12_term_b33 at hf
  refine j_aload_n hc dX12_term_33 rfl ?_
  refine j_dup hc dX12_term_34 rfl ?_
  refine j_getI hc dX12_term_35 fgM_X12_101_0 ?_
  refine j_iconst (v := (1 : Int32)) hc dX12_term_38 ci_1 ?_
  refine j_iadd hc dX12_term_39 ?_
  refine j_putI hc dX12_term_40 fpM_X12_101_0 rfl rfl hf (fun I1 hf => ?_)
  refine j_aload_n hc dX12_term_43 rfl ?_
  refine j_callVW (t := 0) (As := []) hc dX12_term_44 kw_1718 mX12_atom kM_0 clX12 rfl (by omega) (Nat.le_of_ble_eq_true rfl) (Nat.le_of_ble_eq_true rfl) ⟨Nat.le_refl _, Nat.le_refl _⟩ hf (fun v I' L' h => (hg 2 _ _ _ _ _ _ _ _ _ _ h).2.2 rfl) (fun v2 I2 L2 hf => ?_)
  refine j_aload_n hc dX12_term_47 rfl ?_
  refine j_iload_n hc dX12_term_48 rfl ?_
  refine j_bipush (v := (42 : Int32)) hc dX12_term_49 cb_42 ?_
  refine j_icmp_ne (tgt := 58) hc dX12_term_51 rfl hf (fun hf => ?_) (fun hf => ?_)
  · refine j_iconst (v := (5 : Int32)) hc dX12_term_58 ci_5 ?_
    exact j_sub (tX12_term_b59 n d g hg hc k21 hk21 _ _ _ hf) (And.intro rfl (trivial))
  · refine j_iconst (v := (4 : Int32)) hc dX12_term_54 ci_4 ?_
    refine j_goto (tgt := 59) hc dX12_term_55 rfl ?_
    exact j_sub (tX12_term_b59 n d g hg hc k21 hk21 _ _ _ hf) (And.intro rfl (trivial))

set_option maxRecDepth 100000 in
def fX12_term_b21w (n d : Nat) (g : Nat → Int32 → Int32 → Int32 → Int32 → Int32 → am_I → am_L → Option (Int32 × am_I × am_L)) (k21 : Int32 → am_I → am_L → Option (am_I × am_L)) (a1 : Int32) (I : am_I) (L : am_L) : Option (am_I × am_L) :=
  if a1 = (42 : Int32) then
    (fX12_term_b33 n d g k21 a1 I L)
    else
    (if a1 = (47 : Int32) then
      (fX12_term_b33 n d g k21 a1 I L)
      else
      (some (I, L)))

set_option maxRecDepth 100000 in
set_option maxHeartbeats 4000000 in
theorem tX12_term_b21w {x : am_X} (n d : Nat) (g : Nat → Int32 → Int32 → Int32 → Int32 → Int32 → am_I → am_L → Option (Int32 × am_I × am_L)) (hg : ∀ (w : Nat) (e1 e2 e3 e4 e5 : Int32) (I : am_I) (L : am_L) (v : Int32) (I' : am_I) (L' : am_L), g w e1 e2 e3 e4 e5 I L = some (v, I', L') → (w = 0 → am_C x.2.1 yX12_sum cX12_sum 2 none (d + 4) [.ref 0] KM RM I L none I' L') ∧ (w = 1 → am_C x.2.1 yX12_term cX12_term 2 none (d + 4) [.ref 0] KM RM I L none I' L') ∧ (w = 2 → am_C x.2.1 yX12_atom cX12_atom 2 none (d + 4) [.ref 0] KM RM I L none I' L')) (hc : am_ok x cX12_term yX12_term 2 none (d + 5) 0 0) {I' : am_I} {L' : am_L} (k21 : Int32 → am_I → am_L → Option (am_I × am_L)) (hk21 : ∀ (a1 : Int32) (I : am_I) (L : am_L), k21 a1 I L = some (I', L') → am_J x (fun S => S = (none, KM, RM, I', L')) 21 [some (.ref 0), some (.int a1)] [] KM RM I L 0 0) (a1 : Int32) (I : am_I) (L : am_L) (hf : fX12_term_b21w n d g k21 a1 I L = some (I', L')) : am_J x (fun S => S = (none, KM, RM, I', L')) 21 [some (.ref 0), some (.int a1)] [] KM RM I L 0 0 := by
  unfold fX12_term_b21w at hf
  refine j_iload_n hc dX12_term_21 rfl ?_
  refine j_bipush (v := (42 : Int32)) hc dX12_term_22 cb_42 ?_
  refine j_icmp_eq (tgt := 33) hc dX12_term_24 rfl hf (fun hf => ?_) (fun hf => ?_)
  · exact j_sub (tX12_term_b33 n d g hg hc k21 hk21 _ _ _ hf) (And.intro rfl (And.intro rfl (trivial)))
  · refine j_iload_n hc dX12_term_27 rfl ?_
    refine j_bipush (v := (47 : Int32)) hc dX12_term_28 cb_47 ?_
    refine j_icmp_ne (tgt := 83) hc dX12_term_30 rfl hf (fun hf => ?_) (fun hf => ?_)
    · exact j_return hc dX12_term_83 rfl rfl hf
    · exact j_sub (tX12_term_b33 n d g hg hc k21 hk21 _ _ _ hf) (And.intro rfl (And.intro rfl (trivial)))

def fX12_term_b21 (n d : Nat) (g : Nat → Int32 → Int32 → Int32 → Int32 → Int32 → am_I → am_L → Option (Int32 × am_I × am_L)) : Nat → Int32 → am_I → am_L → Option (am_I × am_L)
  | 0 => fun _ _ _ => none
  | m + 1 => fX12_term_b21w n d g (fX12_term_b21 n d g m)

set_option maxRecDepth 100000 in
theorem tX12_term_b21 {x : am_X} (n d : Nat) (g : Nat → Int32 → Int32 → Int32 → Int32 → Int32 → am_I → am_L → Option (Int32 × am_I × am_L)) (hg : ∀ (w : Nat) (e1 e2 e3 e4 e5 : Int32) (I : am_I) (L : am_L) (v : Int32) (I' : am_I) (L' : am_L), g w e1 e2 e3 e4 e5 I L = some (v, I', L') → (w = 0 → am_C x.2.1 yX12_sum cX12_sum 2 none (d + 4) [.ref 0] KM RM I L none I' L') ∧ (w = 1 → am_C x.2.1 yX12_term cX12_term 2 none (d + 4) [.ref 0] KM RM I L none I' L') ∧ (w = 2 → am_C x.2.1 yX12_atom cX12_atom 2 none (d + 4) [.ref 0] KM RM I L none I' L')) (hc : am_ok x cX12_term yX12_term 2 none (d + 5) 0 0) {I' : am_I} {L' : am_L} (m : Nat) : ∀ (a1 : Int32) (I : am_I) (L : am_L) (hf : fX12_term_b21 n d g m a1 I L = some (I', L')), am_J x (fun S => S = (none, KM, RM, I', L')) 21 [some (.ref 0), some (.int a1)] [] KM RM I L 0 0 := by
  induction m with
  | zero => intro a1 I L hf; exact (Option.some_ne_none _ hf.symm).elim
  | succ m ih => intro a1 I L hf; exact tX12_term_b21w n d g hg hc (fX12_term_b21 n d g m) ih a1 I L hf

set_option maxRecDepth 100000 in
def fX12_term_b20 (n d : Nat) (g : Nat → Int32 → Int32 → Int32 → Int32 → Int32 → am_I → am_L → Option (Int32 × am_I × am_L)) (s0 : Int32) (I : am_I) (L : am_L) : Option (am_I × am_L) :=
  am_lt s0 (fun v1 => fX12_term_b21 n d g n v1 I L)

set_option maxRecDepth 100000 in
set_option maxHeartbeats 4000000 in
theorem tX12_term_b20 {x : am_X} (n d : Nat) (g : Nat → Int32 → Int32 → Int32 → Int32 → Int32 → am_I → am_L → Option (Int32 × am_I × am_L)) (hg : ∀ (w : Nat) (e1 e2 e3 e4 e5 : Int32) (I : am_I) (L : am_L) (v : Int32) (I' : am_I) (L' : am_L), g w e1 e2 e3 e4 e5 I L = some (v, I', L') → (w = 0 → am_C x.2.1 yX12_sum cX12_sum 2 none (d + 4) [.ref 0] KM RM I L none I' L') ∧ (w = 1 → am_C x.2.1 yX12_term cX12_term 2 none (d + 4) [.ref 0] KM RM I L none I' L') ∧ (w = 2 → am_C x.2.1 yX12_atom cX12_atom 2 none (d + 4) [.ref 0] KM RM I L none I' L')) (hc : am_ok x cX12_term yX12_term 2 none (d + 5) 0 0) {I' : am_I} {L' : am_L} (s0 : Int32) (I : am_I) (L : am_L) (hf : fX12_term_b20 n d g s0 I L = some (I', L')) : am_J x (fun S => S = (none, KM, RM, I', L')) 20 [some (.ref 0), none] [.int s0] KM RM I L 0 0 := by
  unfold fX12_term_b20 at hf
  refine j_istore_n hc dX12_term_20 (Nat.le_of_ble_eq_true rfl) hf (fun v1 hf => ?_)
  exact j_sub (tX12_term_b21 n d g hg hc n _ _ _ hf) (And.intro rfl (And.intro rfl (trivial)))

set_option maxRecDepth 100000 in
def fX12_term_g (n d : Nat) (g : Nat → Int32 → Int32 → Int32 → Int32 → Int32 → am_I → am_L → Option (Int32 × am_I × am_L)) (I : am_I) (L : am_L) : Option (am_I × am_L) :=
  am_b3 (g 2 0 0 0 0 0 I L) (fun v1 I1 L1 => if (I1 0 4) = (-1 : Int32) then
    (am_b3 (fX12_look n d I1 L1) (fun v2 I2 L2 => fX12_term_b20 n d g v2 I2 L2))
    else
    (fX12_term_b20 n d g (-1 : Int32) I1 L1))

set_option maxRecDepth 100000 in
set_option maxHeartbeats 4000000 in
theorem tX12_term_g {x : am_X} (n d : Nat) (g : Nat → Int32 → Int32 → Int32 → Int32 → Int32 → am_I → am_L → Option (Int32 × am_I × am_L)) (hg : ∀ (w : Nat) (e1 e2 e3 e4 e5 : Int32) (I : am_I) (L : am_L) (v : Int32) (I' : am_I) (L' : am_L), g w e1 e2 e3 e4 e5 I L = some (v, I', L') → (w = 0 → am_C x.2.1 yX12_sum cX12_sum 2 none (d + 4) [.ref 0] KM RM I L none I' L') ∧ (w = 1 → am_C x.2.1 yX12_term cX12_term 2 none (d + 4) [.ref 0] KM RM I L none I' L') ∧ (w = 2 → am_C x.2.1 yX12_atom cX12_atom 2 none (d + 4) [.ref 0] KM RM I L none I' L')) (hc : am_ok x cX12_term yX12_term 2 none (d + 5) 0 0) {I' : am_I} {L' : am_L} (I : am_I) (L : am_L) (hf : fX12_term_g n d g I L = some (I', L')) : am_J x (fun S => S = (none, KM, RM, I', L')) 0 [some (.ref 0), none] [] KM RM I L 0 0 := by
  unfold fX12_term_g at hf
  refine j_aload_n hc dX12_term_0 rfl ?_
  refine j_callVW (t := 0) (As := []) hc dX12_term_1 kw_1718 mX12_atom kM_0 clX12 rfl (by omega) (Nat.le_of_ble_eq_true rfl) (Nat.le_of_ble_eq_true rfl) ⟨Nat.le_refl _, Nat.le_refl _⟩ hf (fun v I' L' h => (hg 2 _ _ _ _ _ _ _ _ _ _ h).2.2 rfl) (fun v1 I1 L1 hf => ?_)
  refine j_aload_n hc dX12_term_4 rfl ?_
  refine j_getI hc dX12_term_5 fgM_X12_108_0 ?_
  refine j_iconst (v := (-1 : Int32)) hc dX12_term_8 ci_m1 ?_
  refine j_icmp_ne (tgt := 19) hc dX12_term_9 rfl hf (fun hf => ?_) (fun hf => ?_)
  · refine j_iconst (v := (-1 : Int32)) hc dX12_term_19 ci_m1 ?_
    exact j_sub (tX12_term_b20 n d g hg hc _ _ _ hf) (And.intro rfl (trivial))
  · refine j_aload_n hc dX12_term_12 rfl ?_
    refine j_callVI (t := 0) (As := []) hc dX12_term_13 kw_1636 mX12_look kM_0 clX12 rfl (by omega) (Nat.le_of_ble_eq_true rfl) (Nat.le_of_ble_eq_true rfl) ⟨Nat.le_refl _, Nat.le_refl _⟩ hf (fun v I' L' h => qX12_look x.2.1 n d I1 L1 v I' L' h) (fun v2 I2 L2 hf => ?_)
    refine j_goto (tgt := 20) hc dX12_term_16 rfl ?_
    exact j_sub (tX12_term_b20 n d g hg hc _ _ _ hf) (And.intro rfl (trivial))

set_option maxRecDepth 100000 in
def fX12_atom_g (n d : Nat) (g : Nat → Int32 → Int32 → Int32 → Int32 → Int32 → am_I → am_L → Option (Int32 × am_I × am_L)) (I : am_I) (L : am_L) : Option (am_I × am_L) :=
  am_b3 (fX12_look n d I L) (fun v1 I1 L1 => am_lt v1 (fun v2 => am_b3 (fX12_isDigit n d v2 I1 L1) (fun v3 I3 L3 => if v3 = 0 then
    (am_b3 (fX12_letterOf n d v2 I3 L3) (fun v4 I4 L4 => if v4 = (-1 : Int32) then
      (if v2 = (91 : Int32) then
        (am_b2 (fX12_opens n d I4 L4) (fun I6 L6 => if (I6 0 4) = (-1 : Int32) then
          (am_b3 (g 0 0 0 0 0 0 I6 L6) (fun v7 I7 L7 => am_b2 (fX12_closes n d (93 : Int32) I7 L7) (fun I8 L8 => some (I8, L8))))
          else
          (some (I6, L6))))
        else
        (am_b2 (fX12_bad n d I4 L4) (fun I5 L5 => some (I5, L5))))
      else
      (am_lt (am_up I4 0 3 ((I4 0 3) + (1 : Int32))) (fun I9 => am_b3 (fX12_letterOf n d v2 I9 L4) (fun v10 I10 L10 => am_b2 (fX12_put n d (1 : Int32) v10 I10 L10) (fun I11 L11 => some (I11, L11)))))))
    else
    (am_b3 (fX12_plainNumber n d I3 L3) (fun v12 I12 L12 => am_b2 (fX12_put n d (0 : Int32) v12 I12 L12) (fun I13 L13 => some (I13, L13)))))))

set_option maxRecDepth 100000 in
set_option maxHeartbeats 4000000 in
theorem tX12_atom_g {x : am_X} (n d : Nat) (g : Nat → Int32 → Int32 → Int32 → Int32 → Int32 → am_I → am_L → Option (Int32 × am_I × am_L)) (hg : ∀ (w : Nat) (e1 e2 e3 e4 e5 : Int32) (I : am_I) (L : am_L) (v : Int32) (I' : am_I) (L' : am_L), g w e1 e2 e3 e4 e5 I L = some (v, I', L') → (w = 0 → am_C x.2.1 yX12_sum cX12_sum 2 none (d + 4) [.ref 0] KM RM I L none I' L') ∧ (w = 1 → am_C x.2.1 yX12_term cX12_term 2 none (d + 4) [.ref 0] KM RM I L none I' L') ∧ (w = 2 → am_C x.2.1 yX12_atom cX12_atom 2 none (d + 4) [.ref 0] KM RM I L none I' L')) (hc : am_ok x cX12_atom yX12_atom 2 none (d + 5) 0 0) {I' : am_I} {L' : am_L} (I : am_I) (L : am_L) (hf : fX12_atom_g n d g I L = some (I', L')) : am_J x (fun S => S = (none, KM, RM, I', L')) 0 [some (.ref 0), none] [] KM RM I L 0 0 := by
  unfold fX12_atom_g at hf
  refine j_aload_n hc dX12_atom_0 rfl ?_
  refine j_callVI (t := 0) (As := []) hc dX12_atom_1 kw_1636 mX12_look kM_0 clX12 rfl (by omega) (Nat.le_of_ble_eq_true rfl) (Nat.le_of_ble_eq_true rfl) ⟨Nat.le_refl _, Nat.le_refl _⟩ hf (fun v I' L' h => qX12_look x.2.1 n d I L v I' L' h) (fun v1 I1 L1 hf => ?_)
  refine j_istore_n hc dX12_atom_4 (Nat.le_of_ble_eq_true rfl) hf (fun v2 hf => ?_)
  refine j_iload_n hc dX12_atom_5 rfl ?_
  refine j_callSI (As := [.int v2]) hc dX12_atom_6 kw_1664 mX12_isDigit  rfl (by omega) (Nat.le_of_ble_eq_true rfl) (Nat.le_of_ble_eq_true rfl) ⟨Nat.le_refl _, Nat.le_refl _⟩ hf (fun v I' L' h => qX12_isDigit x.2.1 n d v2 I1 L1 v I' L' h) (fun v3 I3 L3 hf => ?_)
  refine j_if_eq (tgt := 24) hc dX12_atom_9 rfl hf (fun hf => ?_) (fun hf => ?_)
  · refine j_iload_n hc dX12_atom_24 rfl ?_
    refine j_callSI (As := [.int v2]) hc dX12_atom_25 kw_1726 mX12_letterOf  rfl (by omega) (Nat.le_of_ble_eq_true rfl) (Nat.le_of_ble_eq_true rfl) ⟨Nat.le_refl _, Nat.le_refl _⟩ hf (fun v I' L' h => qX12_letterOf x.2.1 n d v2 I3 L3 v I' L' h) (fun v4 I4 L4 hf => ?_)
    refine j_iconst (v := (-1 : Int32)) hc dX12_atom_28 ci_m1 ?_
    refine j_icmp_eq (tgt := 54) hc dX12_atom_29 rfl hf (fun hf => ?_) (fun hf => ?_)
    · refine j_iload_n hc dX12_atom_54 rfl ?_
      refine j_bipush (v := (91 : Int32)) hc dX12_atom_55 cb_91 ?_
      refine j_icmp_ne (tgt := 85) hc dX12_atom_57 rfl hf (fun hf => ?_) (fun hf => ?_)
      · refine j_aload_n hc dX12_atom_85 rfl ?_
        refine j_callVV (t := 0) (As := []) hc dX12_atom_86 kw_1667 mX12_bad kM_0 clX12 rfl (by omega) (Nat.le_of_ble_eq_true rfl) (Nat.le_of_ble_eq_true rfl) ⟨Nat.le_refl _, Nat.le_refl _⟩ hf (fun I' L' h => qX12_bad x.2.1 n d I4 L4 I' L' h) (fun I5 L5 hf => ?_)
        exact j_return hc dX12_atom_89 rfl rfl hf
      · refine j_aload_n hc dX12_atom_60 rfl ?_
        refine j_callVV (t := 0) (As := []) hc dX12_atom_61 kw_1698 mX12_opens kM_0 clX12 rfl (by omega) (Nat.le_of_ble_eq_true rfl) (Nat.le_of_ble_eq_true rfl) ⟨Nat.le_refl _, Nat.le_refl _⟩ hf (fun I' L' h => qX12_opens x.2.1 n d I4 L4 I' L' h) (fun I6 L6 hf => ?_)
        refine j_aload_n hc dX12_atom_64 rfl ?_
        refine j_getI hc dX12_atom_65 fgM_X12_108_0 ?_
        refine j_iconst (v := (-1 : Int32)) hc dX12_atom_68 ci_m1 ?_
        refine j_icmp_ne (tgt := 89) hc dX12_atom_69 rfl hf (fun hf => ?_) (fun hf => ?_)
        · exact j_return hc dX12_atom_89 rfl rfl hf
        · refine j_aload_n hc dX12_atom_72 rfl ?_
          refine j_callVW (t := 0) (As := []) hc dX12_atom_73 kw_1710 mX12_sum kM_0 clX12 rfl (by omega) (Nat.le_of_ble_eq_true rfl) (Nat.le_of_ble_eq_true rfl) ⟨Nat.le_refl _, Nat.le_refl _⟩ hf (fun v I' L' h => (hg 0 _ _ _ _ _ _ _ _ _ _ h).1 rfl) (fun v7 I7 L7 hf => ?_)
          refine j_aload_n hc dX12_atom_76 rfl ?_
          refine j_bipush (v := (93 : Int32)) hc dX12_atom_77 cb_93 ?_
          refine j_callVV (t := 0) (As := [.int (93 : Int32)]) hc dX12_atom_79 kw_1706 mX12_closes kM_0 clX12 rfl (by omega) (Nat.le_of_ble_eq_true rfl) (Nat.le_of_ble_eq_true rfl) ⟨Nat.le_refl _, Nat.le_refl _⟩ hf (fun I' L' h => qX12_closes x.2.1 n d (93 : Int32) I7 L7 I' L' h) (fun I8 L8 hf => ?_)
          refine j_goto (tgt := 89) hc dX12_atom_82 rfl ?_
          exact j_return hc dX12_atom_89 rfl rfl hf
    · refine j_aload_n hc dX12_atom_32 rfl ?_
      refine j_dup hc dX12_atom_33 rfl ?_
      refine j_getI hc dX12_atom_34 fgM_X12_101_0 ?_
      refine j_iconst (v := (1 : Int32)) hc dX12_atom_37 ci_1 ?_
      refine j_iadd hc dX12_atom_38 ?_
      refine j_putI hc dX12_atom_39 fpM_X12_101_0 rfl rfl hf (fun I9 hf => ?_)
      refine j_aload_n hc dX12_atom_42 rfl ?_
      refine j_iconst (v := (1 : Int32)) hc dX12_atom_43 ci_1 ?_
      refine j_iload_n hc dX12_atom_44 rfl ?_
      refine j_callSI (As := [.int v2]) hc dX12_atom_45 kw_1726 mX12_letterOf  rfl (by omega) (Nat.le_of_ble_eq_true rfl) (Nat.le_of_ble_eq_true rfl) ⟨Nat.le_refl _, Nat.le_refl _⟩ hf (fun v I' L' h => qX12_letterOf x.2.1 n d v2 I9 L4 v I' L' h) (fun v10 I10 L10 hf => ?_)
      refine j_callVV (t := 0) (As := [.int (1 : Int32), .int v10]) hc dX12_atom_48 kw_1702 mX12_put kM_0 clX12 rfl (by omega) (Nat.le_of_ble_eq_true rfl) (Nat.le_of_ble_eq_true rfl) ⟨Nat.le_refl _, Nat.le_refl _⟩ hf (fun I' L' h => qX12_put x.2.1 n d (1 : Int32) v10 I10 L10 I' L' h) (fun I11 L11 hf => ?_)
      refine j_goto (tgt := 89) hc dX12_atom_51 rfl ?_
      exact j_return hc dX12_atom_89 rfl rfl hf
  · refine j_aload_n hc dX12_atom_12 rfl ?_
    refine j_iconst (v := (0 : Int32)) hc dX12_atom_13 ci_0 ?_
    refine j_aload_n hc dX12_atom_14 rfl ?_
    refine j_callVI (t := 0) (As := []) hc dX12_atom_15 kw_1722 mX12_plainNumber kM_0 clX12 rfl (by omega) (Nat.le_of_ble_eq_true rfl) (Nat.le_of_ble_eq_true rfl) ⟨Nat.le_refl _, Nat.le_refl _⟩ hf (fun v I' L' h => qX12_plainNumber x.2.1 n d I3 L3 v I' L' h) (fun v12 I12 L12 hf => ?_)
    refine j_callVV (t := 0) (As := [.int (0 : Int32), .int v12]) hc dX12_atom_18 kw_1702 mX12_put kM_0 clX12 rfl (by omega) (Nat.le_of_ble_eq_true rfl) (Nat.le_of_ble_eq_true rfl) ⟨Nat.le_refl _, Nat.le_refl _⟩ hf (fun I' L' h => qX12_put x.2.1 n d (0 : Int32) v12 I12 L12 I' L' h) (fun I13 L13 hf => ?_)
    refine j_goto (tgt := 89) hc dX12_atom_21 rfl ?_
    exact j_return hc dX12_atom_89 rfl rfl hf

def gX12_sum (n : Nat) : Nat → Nat → Int32 → Int32 → Int32 → Int32 → Int32 → am_I → am_L → Option (Int32 × am_I × am_L)
  | 0 => fun _ _ _ _ _ _ _ _ => none
  | d + 1 => fun w e1 e2 e3 e4 e5 I L => match w with
    | 0 => am_b2 (fX12_sum_g n d (gX12_sum n d)  I L) (fun I L => some (0, I, L))
    | 1 => am_b2 (fX12_term_g n d (gX12_sum n d)  I L) (fun I L => some (0, I, L))
    | 2 => am_b2 (fX12_atom_g n d (gX12_sum n d)  I L) (fun I L => some (0, I, L))
    | _ => none
set_option maxRecDepth 100000 in
set_option maxHeartbeats 4000000 in
theorem cgX12_sum (l : Launch) (n d : Nat) : ∀ (w : Nat) (e1 e2 e3 e4 e5 : Int32) (I : am_I) (L : am_L) (v : Int32) (I' : am_I) (L' : am_L), gX12_sum n d w e1 e2 e3 e4 e5 I L = some (v, I', L') → (w = 0 → am_C l yX12_sum cX12_sum 2 none (d + 4) [.ref 0] KM RM I L none I' L') ∧ (w = 1 → am_C l yX12_term cX12_term 2 none (d + 4) [.ref 0] KM RM I L none I' L') ∧ (w = 2 → am_C l yX12_atom cX12_atom 2 none (d + 4) [.ref 0] KM RM I L none I' L') := by
  induction d with
  | zero => intro w e1 e2 e3 e4 e5 I L v I' L' hf; exact (Option.some_ne_none _ hf.symm).elim
  | succ d ih =>
    intro w e1 e2 e3 e4 e5 I L v I' L' hf
    refine ⟨?_, ?_, ?_⟩
    · exact fun hw => by
          subst hw
          obtain ⟨I2, L2, h1, h2⟩ := am_b2E hf
          cases h2
          exact am_intro (plainFor_of_name plX12) (fun _ _ => trivial) (Nat.le_of_ble_eq_true rfl) (fun x hl hc => by subst hl; exact j_sub (tX12_sum_g n d (gX12_sum n d) ih hc  _ _ h1) (And.intro rfl (trivial)))
    · exact fun hw => by
          subst hw
          obtain ⟨I2, L2, h1, h2⟩ := am_b2E hf
          cases h2
          exact am_intro (plainFor_of_name plX12) (fun _ _ => trivial) (Nat.le_of_ble_eq_true rfl) (fun x hl hc => by subst hl; exact j_sub (tX12_term_g n d (gX12_sum n d) ih hc  _ _ h1) (And.intro rfl (trivial)))
    · exact fun hw => by
          subst hw
          obtain ⟨I2, L2, h1, h2⟩ := am_b2E hf
          cases h2
          exact am_intro (plainFor_of_name plX12) (fun _ _ => trivial) (Nat.le_of_ble_eq_true rfl) (fun x hl hc => by subst hl; exact j_sub (tX12_atom_g n d (gX12_sum n d) ih hc  _ _ h1) (And.intro rfl (trivial)))
def fX12_sum (n d : Nat) (I : am_I) (L : am_L) : Option (am_I × am_L) := am_b3 (gX12_sum n d 0 0 0 0 0 0 I L) (fun _ I L => some (I, L))
theorem qX12_sum (l : Launch) (n d : Nat) (I : am_I) (L : am_L) (I' : am_I) (L' : am_L) (hf : fX12_sum n d I L = some (I', L')) : am_C l yX12_sum cX12_sum 2 none (d + 4) [.ref 0] KM RM I L none I' L' := by
  obtain ⟨v, I2, L2, h1, h2⟩ := am_b3E hf
  cases h2
  exact (cgX12_sum l n d _ _ _ _ _ _ _ _ _ _ _ h1).1 rfl
def fX12_term (n d : Nat) (I : am_I) (L : am_L) : Option (am_I × am_L) := am_b3 (gX12_sum n d 1 0 0 0 0 0 I L) (fun _ I L => some (I, L))
theorem qX12_term (l : Launch) (n d : Nat) (I : am_I) (L : am_L) (I' : am_I) (L' : am_L) (hf : fX12_term n d I L = some (I', L')) : am_C l yX12_term cX12_term 2 none (d + 4) [.ref 0] KM RM I L none I' L' := by
  obtain ⟨v, I2, L2, h1, h2⟩ := am_b3E hf
  cases h2
  exact (cgX12_sum l n d _ _ _ _ _ _ _ _ _ _ _ h1).2.1 rfl
def fX12_atom (n d : Nat) (I : am_I) (L : am_L) : Option (am_I × am_L) := am_b3 (gX12_sum n d 2 0 0 0 0 0 I L) (fun _ I L => some (I, L))
theorem qX12_atom (l : Launch) (n d : Nat) (I : am_I) (L : am_L) (I' : am_I) (L' : am_L) (hf : fX12_atom n d I L = some (I', L')) : am_C l yX12_atom cX12_atom 2 none (d + 4) [.ref 0] KM RM I L none I' L' := by
  obtain ⟨v, I2, L2, h1, h2⟩ := am_b3E hf
  cases h2
  exact (cgX12_sum l n d _ _ _ _ _ _ _ _ _ _ _ h1).2.2 rfl
set_option maxRecDepth 100000 in
def fX12_isSign_b18 (n d : Nat) (I : am_I) (L : am_L) : Option (Int32 × am_I × am_L) :=
  some ((1 : Int32), I, L)

set_option maxRecDepth 100000 in
set_option maxHeartbeats 4000000 in
theorem tX12_isSign_b18 {x : am_X} (n d : Nat) (hc : am_ok x cX12_isSign yX12_isSign 1 (some .boolean) (d + 1) 0 0) {r : Int32} {I' : am_I} {L' : am_L} (I : am_I) (L : am_L) (hf : fX12_isSign_b18 n d I L = some (r, I', L')) : am_J x (fun S => S = (some (.int r), KM, RM, I', L')) 18 [none] [] KM RM I L 0 0 := by
  unfold fX12_isSign_b18 at hf
  refine j_iconst (v := (1 : Int32)) hc dX12_isSign_18 ci_1 ?_
  refine j_goto (tgt := 23) hc dX12_isSign_19 rfl ?_
  exact j_zret hc dX12_isSign_23 rfl rfl (Or.inr rfl) hf

set_option maxRecDepth 100000 in
def fX12_isSign (n d : Nat) (a0 : Int32) (I : am_I) (L : am_L) : Option (Int32 × am_I × am_L) :=
  if a0 = (61 : Int32) then
    (fX12_isSign_b18 n d I L)
    else
    (if a0 = (60 : Int32) then
      (fX12_isSign_b18 n d I L)
      else
      (if a0 = (62 : Int32) then
        (fX12_isSign_b18 n d I L)
        else
        (some ((0 : Int32), I, L))))

set_option maxRecDepth 100000 in
set_option maxHeartbeats 4000000 in
theorem tX12_isSign {x : am_X} (n d : Nat) (hc : am_ok x cX12_isSign yX12_isSign 1 (some .boolean) (d + 1) 0 0) {r : Int32} {I' : am_I} {L' : am_L} (a0 : Int32) (I : am_I) (L : am_L) (hf : fX12_isSign n d a0 I L = some (r, I', L')) : am_J x (fun S => S = (some (.int r), KM, RM, I', L')) 0 [some (.int a0)] [] KM RM I L 0 0 := by
  unfold fX12_isSign at hf
  refine j_iload_n hc dX12_isSign_0 rfl ?_
  refine j_bipush (v := (61 : Int32)) hc dX12_isSign_1 cb_61 ?_
  refine j_icmp_eq (tgt := 18) hc dX12_isSign_3 rfl hf (fun hf => ?_) (fun hf => ?_)
  · exact j_sub (tX12_isSign_b18 n d hc _ _ hf) (trivial)
  · refine j_iload_n hc dX12_isSign_6 rfl ?_
    refine j_bipush (v := (60 : Int32)) hc dX12_isSign_7 cb_60 ?_
    refine j_icmp_eq (tgt := 18) hc dX12_isSign_9 rfl hf (fun hf => ?_) (fun hf => ?_)
    · exact j_sub (tX12_isSign_b18 n d hc _ _ hf) (trivial)
    · refine j_iload_n hc dX12_isSign_12 rfl ?_
      refine j_bipush (v := (62 : Int32)) hc dX12_isSign_13 cb_62 ?_
      refine j_icmp_ne (tgt := 22) hc dX12_isSign_15 rfl hf (fun hf => ?_) (fun hf => ?_)
      · refine j_iconst (v := (0 : Int32)) hc dX12_isSign_22 ci_0 ?_
        exact j_zret hc dX12_isSign_23 rfl rfl (Or.inl rfl) hf
      · exact j_sub (tX12_isSign_b18 n d hc _ _ hf) (trivial)

set_option maxRecDepth 100000 in
theorem qX12_isSign (l : Launch) (n d : Nat) (a0 : Int32) (I : am_I) (L : am_L) (r : Int32) (I' : am_I) (L' : am_L) (hf : fX12_isSign n d a0 I L = some (r, I', L')) : am_C l yX12_isSign cX12_isSign 1 (some .boolean) (d + 1) [.int a0] KM RM I L (some (.int r)) I' L' := by
  exact am_intro (plainFor_of_name plX12) (fun _ _ => trivial) (Nat.le_of_ble_eq_true rfl) (fun x hl hc => by subst hl; exact j_sub (tX12_isSign n d hc _ _ _ hf) (And.intro rfl (trivial)))
set_option maxRecDepth 100000 in
def fX12_compare_b68 (n d : Nat) (s1 : Int32) (I : am_I) (L : am_L) : Option (am_I × am_L) :=
  am_b2 (fX12_put n d s1 (0 : Int32) I L) (fun I1 L1 => some (I1, L1))

set_option maxRecDepth 100000 in
set_option maxHeartbeats 4000000 in
theorem tX12_compare_b68 {x : am_X} (n d : Nat) (hc : am_ok x cX12_compare yX12_compare 2 none (d + 5) 0 0) {I' : am_I} {L' : am_L} (s1 : Int32) (I : am_I) (L : am_L) (hf : fX12_compare_b68 n d s1 I L = some (I', L')) : am_J x (fun S => S = (none, KM, RM, I', L')) 68 [none, none] [.int s1, .ref 0] KM RM I L 0 0 := by
  unfold fX12_compare_b68 at hf
  refine j_iconst (v := (0 : Int32)) hc dX12_compare_68 ci_0 ?_
  refine j_callVV (t := 0) (As := [.int s1, .int (0 : Int32)]) hc dX12_compare_69 kw_1702 mX12_put kM_0 clX12 rfl (by omega) (Nat.le_of_ble_eq_true rfl) (Nat.le_of_ble_eq_true rfl) ⟨Nat.le_refl _, Nat.le_refl _⟩ hf (fun I' L' h => qX12_put x.2.1 n d s1 (0 : Int32) I L I' L' h) (fun I1 L1 hf => ?_)
  exact j_return hc dX12_compare_72 rfl rfl hf

set_option maxRecDepth 100000 in
def fX12_compare_b16 (n d : Nat) (s0 : Int32) (I : am_I) (L : am_L) : Option (am_I × am_L) :=
  am_lt s0 (fun v1 => am_b3 (fX12_isSign n d v1 I L) (fun v2 I2 L2 => if v2 = 0 then
    (am_b2 (fX12_bad n d I2 L2) (fun I5 L5 => some (I5, L5)))
    else
    (am_lt (am_up I2 0 3 ((I2 0 3) + (1 : Int32))) (fun I3 => am_b2 (fX12_sum n d I3 L2) (fun I4 L4 => if v1 = (61 : Int32) then
      (fX12_compare_b68 n d (6 : Int32) I4 L4)
      else
      (if v1 = (60 : Int32) then
        (fX12_compare_b68 n d (7 : Int32) I4 L4)
        else
        (fX12_compare_b68 n d (8 : Int32) I4 L4)))))))

set_option maxRecDepth 100000 in
set_option maxHeartbeats 4000000 in
theorem tX12_compare_b16 {x : am_X} (n d : Nat) (hc : am_ok x cX12_compare yX12_compare 2 none (d + 5) 0 0) {I' : am_I} {L' : am_L} (s0 : Int32) (I : am_I) (L : am_L) (hf : fX12_compare_b16 n d s0 I L = some (I', L')) : am_J x (fun S => S = (none, KM, RM, I', L')) 16 [some (.ref 0), none] [.int s0] KM RM I L 0 0 := by
  unfold fX12_compare_b16 at hf
  refine j_istore_n hc dX12_compare_16 (Nat.le_of_ble_eq_true rfl) hf (fun v1 hf => ?_)
  refine j_iload_n hc dX12_compare_17 rfl ?_
  refine j_callSI (As := [.int v1]) hc dX12_compare_18 kw_1733 mX12_isSign  rfl (by omega) (Nat.le_of_ble_eq_true rfl) (Nat.le_of_ble_eq_true rfl) ⟨Nat.le_refl _, Nat.le_refl _⟩ hf (fun v I' L' h => qX12_isSign x.2.1 n d v1 I L v I' L' h) (fun v2 I2 L2 hf => ?_)
  refine j_if_ne (tgt := 29) hc dX12_compare_21 rfl hf (fun hf => ?_) (fun hf => ?_)
  · refine j_aload_n hc dX12_compare_29 rfl ?_
    refine j_dup hc dX12_compare_30 rfl ?_
    refine j_getI hc dX12_compare_31 fgM_X12_101_0 ?_
    refine j_iconst (v := (1 : Int32)) hc dX12_compare_34 ci_1 ?_
    refine j_iadd hc dX12_compare_35 ?_
    refine j_putI hc dX12_compare_36 fpM_X12_101_0 rfl rfl hf (fun I3 hf => ?_)
    refine j_aload_n hc dX12_compare_39 rfl ?_
    refine j_callVV (t := 0) (As := []) hc dX12_compare_40 kw_1710 mX12_sum kM_0 clX12 rfl (by omega) (Nat.le_of_ble_eq_true rfl) (Nat.le_of_ble_eq_true rfl) ⟨Nat.le_refl _, Nat.le_refl _⟩ hf (fun I' L' h => qX12_sum x.2.1 n d I3 L2 I' L' h) (fun I4 L4 hf => ?_)
    refine j_aload_n hc dX12_compare_43 rfl ?_
    refine j_iload_n hc dX12_compare_44 rfl ?_
    refine j_bipush (v := (61 : Int32)) hc dX12_compare_45 cb_61 ?_
    refine j_icmp_ne (tgt := 55) hc dX12_compare_47 rfl hf (fun hf => ?_) (fun hf => ?_)
    · refine j_iload_n hc dX12_compare_55 rfl ?_
      refine j_bipush (v := (60 : Int32)) hc dX12_compare_56 cb_60 ?_
      refine j_icmp_ne (tgt := 66) hc dX12_compare_58 rfl hf (fun hf => ?_) (fun hf => ?_)
      · refine j_bipush (v := (8 : Int32)) hc dX12_compare_66 cb_8 ?_
        exact j_sub (tX12_compare_b68 n d hc _ _ _ hf) (trivial)
      · refine j_bipush (v := (7 : Int32)) hc dX12_compare_61 cb_7 ?_
        refine j_goto (tgt := 68) hc dX12_compare_63 rfl ?_
        exact j_sub (tX12_compare_b68 n d hc _ _ _ hf) (trivial)
    · refine j_bipush (v := (6 : Int32)) hc dX12_compare_50 cb_6 ?_
      refine j_goto (tgt := 68) hc dX12_compare_52 rfl ?_
      exact j_sub (tX12_compare_b68 n d hc _ _ _ hf) (trivial)
  · refine j_aload_n hc dX12_compare_24 rfl ?_
    refine j_callVV (t := 0) (As := []) hc dX12_compare_25 kw_1667 mX12_bad kM_0 clX12 rfl (by omega) (Nat.le_of_ble_eq_true rfl) (Nat.le_of_ble_eq_true rfl) ⟨Nat.le_refl _, Nat.le_refl _⟩ hf (fun I' L' h => qX12_bad x.2.1 n d I2 L2 I' L' h) (fun I5 L5 hf => ?_)
    exact j_return hc dX12_compare_28 rfl rfl hf

set_option maxRecDepth 100000 in
def fX12_compare (n d : Nat) (I : am_I) (L : am_L) : Option (am_I × am_L) :=
  if (I 0 4) = (-1 : Int32) then
    (am_b3 (fX12_look n d I L) (fun v1 I1 L1 => fX12_compare_b16 n d v1 I1 L1))
    else
    (fX12_compare_b16 n d (-1 : Int32) I L)

set_option maxRecDepth 100000 in
set_option maxHeartbeats 4000000 in
theorem tX12_compare {x : am_X} (n d : Nat) (hc : am_ok x cX12_compare yX12_compare 2 none (d + 5) 0 0) {I' : am_I} {L' : am_L} (I : am_I) (L : am_L) (hf : fX12_compare n d I L = some (I', L')) : am_J x (fun S => S = (none, KM, RM, I', L')) 0 [some (.ref 0), none] [] KM RM I L 0 0 := by
  unfold fX12_compare at hf
  refine j_aload_n hc dX12_compare_0 rfl ?_
  refine j_getI hc dX12_compare_1 fgM_X12_108_0 ?_
  refine j_iconst (v := (-1 : Int32)) hc dX12_compare_4 ci_m1 ?_
  refine j_icmp_ne (tgt := 15) hc dX12_compare_5 rfl hf (fun hf => ?_) (fun hf => ?_)
  · refine j_iconst (v := (-1 : Int32)) hc dX12_compare_15 ci_m1 ?_
    exact j_sub (tX12_compare_b16 n d hc _ _ _ hf) (And.intro rfl (trivial))
  · refine j_aload_n hc dX12_compare_8 rfl ?_
    refine j_callVI (t := 0) (As := []) hc dX12_compare_9 kw_1636 mX12_look kM_0 clX12 rfl (by omega) (Nat.le_of_ble_eq_true rfl) (Nat.le_of_ble_eq_true rfl) ⟨Nat.le_refl _, Nat.le_refl _⟩ hf (fun v I' L' h => qX12_look x.2.1 n d I L v I' L' h) (fun v1 I1 L1 hf => ?_)
    refine j_goto (tgt := 16) hc dX12_compare_12 rfl ?_
    exact j_sub (tX12_compare_b16 n d hc _ _ _ hf) (And.intro rfl (trivial))

set_option maxRecDepth 100000 in
theorem qX12_compare (l : Launch) (n d : Nat) (I : am_I) (L : am_L) (I' : am_I) (L' : am_L) (hf : fX12_compare n d I L = some (I', L')) : am_C l yX12_compare cX12_compare 2 none (d + 5) [.ref 0] KM RM I L none I' L' := by
  exact am_intro (plainFor_of_name plX12) (fun _ _ => trivial) (Nat.le_of_ble_eq_true rfl) (fun x hl hc => by subst hl; exact j_sub (tX12_compare n d hc  _ _ hf) (And.intro rfl (trivial)))
set_option maxRecDepth 100000 in
def fX12_condition_g (n d : Nat) (g : Nat → Int32 → Int32 → Int32 → Int32 → Int32 → am_I → am_L → Option (Int32 × am_I × am_L)) (I : am_I) (L : am_L) : Option (am_I × am_L) :=
  am_b3 (g 1 0 0 0 0 0 I L) (fun v1 I1 L1 => am_b3 (g 2 0 0 0 0 0 I1 L1) (fun v2 I2 L2 => am_b3 (g 3 0 0 0 0 0 I2 L2) (fun v3 I3 L3 => some (I3, L3))))

set_option maxRecDepth 100000 in
set_option maxHeartbeats 4000000 in
theorem tX12_condition_g {x : am_X} (n d : Nat) (g : Nat → Int32 → Int32 → Int32 → Int32 → Int32 → am_I → am_L → Option (Int32 × am_I × am_L)) (hg : ∀ (w : Nat) (e1 e2 e3 e4 e5 : Int32) (I : am_I) (L : am_L) (v : Int32) (I' : am_I) (L' : am_L), g w e1 e2 e3 e4 e5 I L = some (v, I', L') → (w = 0 → am_C x.2.1 yX12_condition cX12_condition 1 none (d + 6) [.ref 0] KM RM I L none I' L') ∧ (w = 1 → am_C x.2.1 yX12_unit cX12_unit 2 none (d + 6) [.ref 0] KM RM I L none I' L') ∧ (w = 2 → am_C x.2.1 yX12_goOnAnd cX12_goOnAnd 1 none (d + 6) [.ref 0] KM RM I L none I' L') ∧ (w = 3 → am_C x.2.1 yX12_goOnOr cX12_goOnOr 1 none (d + 6) [.ref 0] KM RM I L none I' L')) (hc : am_ok x cX12_condition yX12_condition 1 none (d + 7) 0 0) {I' : am_I} {L' : am_L} (I : am_I) (L : am_L) (hf : fX12_condition_g n d g I L = some (I', L')) : am_J x (fun S => S = (none, KM, RM, I', L')) 0 [some (.ref 0)] [] KM RM I L 0 0 := by
  unfold fX12_condition_g at hf
  refine j_aload_n hc dX12_condition_0 rfl ?_
  refine j_callVW (t := 0) (As := []) hc dX12_condition_1 kw_1694 mX12_unit kM_0 clX12 rfl (by omega) (Nat.le_of_ble_eq_true rfl) (Nat.le_of_ble_eq_true rfl) ⟨Nat.le_refl _, Nat.le_refl _⟩ hf (fun v I' L' h => (hg 1 _ _ _ _ _ _ _ _ _ _ h).2.1 rfl) (fun v1 I1 L1 hf => ?_)
  refine j_aload_n hc dX12_condition_4 rfl ?_
  refine j_callVW (t := 0) (As := []) hc dX12_condition_5 kw_1736 mX12_goOnAnd kM_0 clX12 rfl (by omega) (Nat.le_of_ble_eq_true rfl) (Nat.le_of_ble_eq_true rfl) ⟨Nat.le_refl _, Nat.le_refl _⟩ hf (fun v I' L' h => (hg 2 _ _ _ _ _ _ _ _ _ _ h).2.2.1 rfl) (fun v2 I2 L2 hf => ?_)
  refine j_aload_n hc dX12_condition_8 rfl ?_
  refine j_callVW (t := 0) (As := []) hc dX12_condition_9 kw_1740 mX12_goOnOr kM_0 clX12 rfl (by omega) (Nat.le_of_ble_eq_true rfl) (Nat.le_of_ble_eq_true rfl) ⟨Nat.le_refl _, Nat.le_refl _⟩ hf (fun v I' L' h => (hg 3 _ _ _ _ _ _ _ _ _ _ h).2.2.2 rfl) (fun v3 I3 L3 hf => ?_)
  exact j_return hc dX12_condition_12 rfl rfl hf

set_option maxRecDepth 100000 in
def fX12_unit_g (n d : Nat) (g : Nat → Int32 → Int32 → Int32 → Int32 → Int32 → am_I → am_L → Option (Int32 × am_I × am_L)) (I : am_I) (L : am_L) : Option (am_I × am_L) :=
  am_b3 (fX12_look n d I L) (fun v1 I1 L1 => am_lt v1 (fun v2 => if v2 = (33 : Int32) then
    (am_b2 (fX12_opens n d I1 L1) (fun I8 L8 => if (I8 0 4) = (-1 : Int32) then
      (am_b3 (g 1 0 0 0 0 0 I8 L8) (fun v9 I9 L9 => am_b2 (fX12_put n d (9 : Int32) (0 : Int32) I9 L9) (fun I10 L10 => am_lt (am_up I10 0 5 ((I10 0 5) - (1 : Int32))) (fun I11 => some (I11, L10)))))
      else
      (some (I8, L8))))
    else
    (if v2 = (40 : Int32) then
      (am_b2 (fX12_opens n d I1 L1) (fun I5 L5 => if (I5 0 4) = (-1 : Int32) then
        (am_b3 (g 0 0 0 0 0 0 I5 L5) (fun v6 I6 L6 => am_b2 (fX12_closes n d (41 : Int32) I6 L6) (fun I7 L7 => some (I7, L7))))
        else
        (some (I5, L5))))
      else
      (am_b2 (fX12_sum n d I1 L1) (fun I3 L3 => if (I3 0 4) = (-1 : Int32) then
        (am_b2 (fX12_compare n d I3 L3) (fun I4 L4 => some (I4, L4)))
        else
        (some (I3, L3)))))))

set_option maxRecDepth 100000 in
set_option maxHeartbeats 4000000 in
theorem tX12_unit_g {x : am_X} (n d : Nat) (g : Nat → Int32 → Int32 → Int32 → Int32 → Int32 → am_I → am_L → Option (Int32 × am_I × am_L)) (hg : ∀ (w : Nat) (e1 e2 e3 e4 e5 : Int32) (I : am_I) (L : am_L) (v : Int32) (I' : am_I) (L' : am_L), g w e1 e2 e3 e4 e5 I L = some (v, I', L') → (w = 0 → am_C x.2.1 yX12_condition cX12_condition 1 none (d + 6) [.ref 0] KM RM I L none I' L') ∧ (w = 1 → am_C x.2.1 yX12_unit cX12_unit 2 none (d + 6) [.ref 0] KM RM I L none I' L') ∧ (w = 2 → am_C x.2.1 yX12_goOnAnd cX12_goOnAnd 1 none (d + 6) [.ref 0] KM RM I L none I' L') ∧ (w = 3 → am_C x.2.1 yX12_goOnOr cX12_goOnOr 1 none (d + 6) [.ref 0] KM RM I L none I' L')) (hc : am_ok x cX12_unit yX12_unit 2 none (d + 7) 0 0) {I' : am_I} {L' : am_L} (I : am_I) (L : am_L) (hf : fX12_unit_g n d g I L = some (I', L')) : am_J x (fun S => S = (none, KM, RM, I', L')) 0 [some (.ref 0), none] [] KM RM I L 0 0 := by
  unfold fX12_unit_g at hf
  refine j_aload_n hc dX12_unit_0 rfl ?_
  refine j_callVI (t := 0) (As := []) hc dX12_unit_1 kw_1636 mX12_look kM_0 clX12 rfl (by omega) (Nat.le_of_ble_eq_true rfl) (Nat.le_of_ble_eq_true rfl) ⟨Nat.le_refl _, Nat.le_refl _⟩ hf (fun v I' L' h => qX12_look x.2.1 n d I L v I' L' h) (fun v1 I1 L1 hf => ?_)
  refine j_istore_n hc dX12_unit_4 (Nat.le_of_ble_eq_true rfl) hf (fun v2 hf => ?_)
  refine j_iload_n hc dX12_unit_5 rfl ?_
  refine j_bipush (v := (33 : Int32)) hc dX12_unit_6 cb_33 ?_
  refine j_icmp_ne (tgt := 47) hc dX12_unit_8 rfl hf (fun hf => ?_) (fun hf => ?_)
  · refine j_iload_n hc dX12_unit_47 rfl ?_
    refine j_bipush (v := (40 : Int32)) hc dX12_unit_48 cb_40 ?_
    refine j_icmp_ne (tgt := 78) hc dX12_unit_50 rfl hf (fun hf => ?_) (fun hf => ?_)
    · refine j_aload_n hc dX12_unit_78 rfl ?_
      refine j_callVV (t := 0) (As := []) hc dX12_unit_79 kw_1710 mX12_sum kM_0 clX12 rfl (by omega) (Nat.le_of_ble_eq_true rfl) (Nat.le_of_ble_eq_true rfl) ⟨Nat.le_refl _, Nat.le_refl _⟩ hf (fun I' L' h => qX12_sum x.2.1 n d I1 L1 I' L' h) (fun I3 L3 hf => ?_)
      refine j_aload_n hc dX12_unit_82 rfl ?_
      refine j_getI hc dX12_unit_83 fgM_X12_108_0 ?_
      refine j_iconst (v := (-1 : Int32)) hc dX12_unit_86 ci_m1 ?_
      refine j_icmp_ne (tgt := 94) hc dX12_unit_87 rfl hf (fun hf => ?_) (fun hf => ?_)
      · exact j_return hc dX12_unit_94 rfl rfl hf
      · refine j_aload_n hc dX12_unit_90 rfl ?_
        refine j_callVV (t := 0) (As := []) hc dX12_unit_91 kw_1729 mX12_compare kM_0 clX12 rfl (by omega) (Nat.le_of_ble_eq_true rfl) (Nat.le_of_ble_eq_true rfl) ⟨Nat.le_refl _, Nat.le_refl _⟩ hf (fun I' L' h => qX12_compare x.2.1 n d I3 L3 I' L' h) (fun I4 L4 hf => ?_)
        exact j_return hc dX12_unit_94 rfl rfl hf
    · refine j_aload_n hc dX12_unit_53 rfl ?_
      refine j_callVV (t := 0) (As := []) hc dX12_unit_54 kw_1698 mX12_opens kM_0 clX12 rfl (by omega) (Nat.le_of_ble_eq_true rfl) (Nat.le_of_ble_eq_true rfl) ⟨Nat.le_refl _, Nat.le_refl _⟩ hf (fun I' L' h => qX12_opens x.2.1 n d I1 L1 I' L' h) (fun I5 L5 hf => ?_)
      refine j_aload_n hc dX12_unit_57 rfl ?_
      refine j_getI hc dX12_unit_58 fgM_X12_108_0 ?_
      refine j_iconst (v := (-1 : Int32)) hc dX12_unit_61 ci_m1 ?_
      refine j_icmp_ne (tgt := 94) hc dX12_unit_62 rfl hf (fun hf => ?_) (fun hf => ?_)
      · exact j_return hc dX12_unit_94 rfl rfl hf
      · refine j_aload_n hc dX12_unit_65 rfl ?_
        refine j_callVW (t := 0) (As := []) hc dX12_unit_66 kw_1690 mX12_condition kM_0 clX12 rfl (by omega) (Nat.le_of_ble_eq_true rfl) (Nat.le_of_ble_eq_true rfl) ⟨Nat.le_refl _, Nat.le_refl _⟩ hf (fun v I' L' h => (hg 0 _ _ _ _ _ _ _ _ _ _ h).1 rfl) (fun v6 I6 L6 hf => ?_)
        refine j_aload_n hc dX12_unit_69 rfl ?_
        refine j_bipush (v := (41 : Int32)) hc dX12_unit_70 cb_41 ?_
        refine j_callVV (t := 0) (As := [.int (41 : Int32)]) hc dX12_unit_72 kw_1706 mX12_closes kM_0 clX12 rfl (by omega) (Nat.le_of_ble_eq_true rfl) (Nat.le_of_ble_eq_true rfl) ⟨Nat.le_refl _, Nat.le_refl _⟩ hf (fun I' L' h => qX12_closes x.2.1 n d (41 : Int32) I6 L6 I' L' h) (fun I7 L7 hf => ?_)
        refine j_goto (tgt := 94) hc dX12_unit_75 rfl ?_
        exact j_return hc dX12_unit_94 rfl rfl hf
  · refine j_aload_n hc dX12_unit_11 rfl ?_
    refine j_callVV (t := 0) (As := []) hc dX12_unit_12 kw_1698 mX12_opens kM_0 clX12 rfl (by omega) (Nat.le_of_ble_eq_true rfl) (Nat.le_of_ble_eq_true rfl) ⟨Nat.le_refl _, Nat.le_refl _⟩ hf (fun I' L' h => qX12_opens x.2.1 n d I1 L1 I' L' h) (fun I8 L8 hf => ?_)
    refine j_aload_n hc dX12_unit_15 rfl ?_
    refine j_getI hc dX12_unit_16 fgM_X12_108_0 ?_
    refine j_iconst (v := (-1 : Int32)) hc dX12_unit_19 ci_m1 ?_
    refine j_icmp_ne (tgt := 94) hc dX12_unit_20 rfl hf (fun hf => ?_) (fun hf => ?_)
    · exact j_return hc dX12_unit_94 rfl rfl hf
    · refine j_aload_n hc dX12_unit_23 rfl ?_
      refine j_callVW (t := 0) (As := []) hc dX12_unit_24 kw_1694 mX12_unit kM_0 clX12 rfl (by omega) (Nat.le_of_ble_eq_true rfl) (Nat.le_of_ble_eq_true rfl) ⟨Nat.le_refl _, Nat.le_refl _⟩ hf (fun v I' L' h => (hg 1 _ _ _ _ _ _ _ _ _ _ h).2.1 rfl) (fun v9 I9 L9 hf => ?_)
      refine j_aload_n hc dX12_unit_27 rfl ?_
      refine j_bipush (v := (9 : Int32)) hc dX12_unit_28 cb_9 ?_
      refine j_iconst (v := (0 : Int32)) hc dX12_unit_30 ci_0 ?_
      refine j_callVV (t := 0) (As := [.int (9 : Int32), .int (0 : Int32)]) hc dX12_unit_31 kw_1702 mX12_put kM_0 clX12 rfl (by omega) (Nat.le_of_ble_eq_true rfl) (Nat.le_of_ble_eq_true rfl) ⟨Nat.le_refl _, Nat.le_refl _⟩ hf (fun I' L' h => qX12_put x.2.1 n d (9 : Int32) (0 : Int32) I9 L9 I' L' h) (fun I10 L10 hf => ?_)
      refine j_aload_n hc dX12_unit_34 rfl ?_
      refine j_dup hc dX12_unit_35 rfl ?_
      refine j_getI hc dX12_unit_36 fgM_X12_114_0 ?_
      refine j_iconst (v := (1 : Int32)) hc dX12_unit_39 ci_1 ?_
      refine j_isub hc dX12_unit_40 ?_
      refine j_putI hc dX12_unit_41 fpM_X12_114_0 rfl rfl hf (fun I11 hf => ?_)
      refine j_goto (tgt := 94) hc dX12_unit_44 rfl ?_
      exact j_return hc dX12_unit_94 rfl rfl hf

set_option maxRecDepth 100000 in
def fX12_goOnAnd_b0w (n d : Nat) (g : Nat → Int32 → Int32 → Int32 → Int32 → Int32 → am_I → am_L → Option (Int32 × am_I × am_L)) (k0 : am_I → am_L → Option (am_I × am_L)) (I : am_I) (L : am_L) : Option (am_I × am_L) :=
  if (I 0 4) = (-1 : Int32) then
    (am_b3 (fX12_look n d I L) (fun v1 I1 L1 => if v1 = (38 : Int32) then
      (am_lt (am_up I1 0 3 ((I1 0 3) + (1 : Int32))) (fun I2 => am_b3 (g 1 0 0 0 0 0 I2 L1) (fun v3 I3 L3 => am_b2 (fX12_put n d (10 : Int32) (0 : Int32) I3 L3) (fun I4 L4 => k0 I4 L4))))
      else
      (some (I1, L1))))
    else
    (some (I, L))

set_option maxRecDepth 100000 in
set_option maxHeartbeats 4000000 in
theorem tX12_goOnAnd_b0w {x : am_X} (n d : Nat) (g : Nat → Int32 → Int32 → Int32 → Int32 → Int32 → am_I → am_L → Option (Int32 × am_I × am_L)) (hg : ∀ (w : Nat) (e1 e2 e3 e4 e5 : Int32) (I : am_I) (L : am_L) (v : Int32) (I' : am_I) (L' : am_L), g w e1 e2 e3 e4 e5 I L = some (v, I', L') → (w = 0 → am_C x.2.1 yX12_condition cX12_condition 1 none (d + 6) [.ref 0] KM RM I L none I' L') ∧ (w = 1 → am_C x.2.1 yX12_unit cX12_unit 2 none (d + 6) [.ref 0] KM RM I L none I' L') ∧ (w = 2 → am_C x.2.1 yX12_goOnAnd cX12_goOnAnd 1 none (d + 6) [.ref 0] KM RM I L none I' L') ∧ (w = 3 → am_C x.2.1 yX12_goOnOr cX12_goOnOr 1 none (d + 6) [.ref 0] KM RM I L none I' L')) (hc : am_ok x cX12_goOnAnd yX12_goOnAnd 1 none (d + 7) 0 0) {I' : am_I} {L' : am_L} (k0 : am_I → am_L → Option (am_I × am_L)) (hk0 : ∀ (I : am_I) (L : am_L), k0 I L = some (I', L') → am_J x (fun S => S = (none, KM, RM, I', L')) 0 [some (.ref 0)] [] KM RM I L 0 0) (I : am_I) (L : am_L) (hf : fX12_goOnAnd_b0w n d g k0 I L = some (I', L')) : am_J x (fun S => S = (none, KM, RM, I', L')) 0 [some (.ref 0)] [] KM RM I L 0 0 := by
  unfold fX12_goOnAnd_b0w at hf
  refine j_aload_n hc dX12_goOnAnd_0 rfl ?_
  refine j_getI hc dX12_goOnAnd_1 fgM_X12_108_0 ?_
  refine j_iconst (v := (-1 : Int32)) hc dX12_goOnAnd_4 ci_m1 ?_
  refine j_icmp_ne (tgt := 41) hc dX12_goOnAnd_5 rfl hf (fun hf => ?_) (fun hf => ?_)
  · exact j_return hc dX12_goOnAnd_41 rfl rfl hf
  · refine j_aload_n hc dX12_goOnAnd_8 rfl ?_
    refine j_callVI (t := 0) (As := []) hc dX12_goOnAnd_9 kw_1636 mX12_look kM_0 clX12 rfl (by omega) (Nat.le_of_ble_eq_true rfl) (Nat.le_of_ble_eq_true rfl) ⟨Nat.le_refl _, Nat.le_refl _⟩ hf (fun v I' L' h => qX12_look x.2.1 n d I L v I' L' h) (fun v1 I1 L1 hf => ?_)
    refine j_bipush (v := (38 : Int32)) hc dX12_goOnAnd_12 cb_38 ?_
    refine j_icmp_ne (tgt := 41) hc dX12_goOnAnd_14 rfl hf (fun hf => ?_) (fun hf => ?_)
    · exact j_return hc dX12_goOnAnd_41 rfl rfl hf
    · refine j_aload_n hc dX12_goOnAnd_17 rfl ?_
      refine j_dup hc dX12_goOnAnd_18 rfl ?_
      refine j_getI hc dX12_goOnAnd_19 fgM_X12_101_0 ?_
      refine j_iconst (v := (1 : Int32)) hc dX12_goOnAnd_22 ci_1 ?_
      refine j_iadd hc dX12_goOnAnd_23 ?_
      refine j_putI hc dX12_goOnAnd_24 fpM_X12_101_0 rfl rfl hf (fun I2 hf => ?_)
      refine j_aload_n hc dX12_goOnAnd_27 rfl ?_
      refine j_callVW (t := 0) (As := []) hc dX12_goOnAnd_28 kw_1694 mX12_unit kM_0 clX12 rfl (by omega) (Nat.le_of_ble_eq_true rfl) (Nat.le_of_ble_eq_true rfl) ⟨Nat.le_refl _, Nat.le_refl _⟩ hf (fun v I' L' h => (hg 1 _ _ _ _ _ _ _ _ _ _ h).2.1 rfl) (fun v3 I3 L3 hf => ?_)
      refine j_aload_n hc dX12_goOnAnd_31 rfl ?_
      refine j_bipush (v := (10 : Int32)) hc dX12_goOnAnd_32 cb_10 ?_
      refine j_iconst (v := (0 : Int32)) hc dX12_goOnAnd_34 ci_0 ?_
      refine j_callVV (t := 0) (As := [.int (10 : Int32), .int (0 : Int32)]) hc dX12_goOnAnd_35 kw_1702 mX12_put kM_0 clX12 rfl (by omega) (Nat.le_of_ble_eq_true rfl) (Nat.le_of_ble_eq_true rfl) ⟨Nat.le_refl _, Nat.le_refl _⟩ hf (fun I' L' h => qX12_put x.2.1 n d (10 : Int32) (0 : Int32) I3 L3 I' L' h) (fun I4 L4 hf => ?_)
      refine j_goto (tgt := 0) hc dX12_goOnAnd_38 rfl ?_
      exact j_sub (hk0 _ _ hf) (And.intro rfl (trivial))

def fX12_goOnAnd_b0 (n d : Nat) (g : Nat → Int32 → Int32 → Int32 → Int32 → Int32 → am_I → am_L → Option (Int32 × am_I × am_L)) : Nat → am_I → am_L → Option (am_I × am_L)
  | 0 => fun _ _ => none
  | m + 1 => fX12_goOnAnd_b0w n d g (fX12_goOnAnd_b0 n d g m)

set_option maxRecDepth 100000 in
theorem tX12_goOnAnd_b0 {x : am_X} (n d : Nat) (g : Nat → Int32 → Int32 → Int32 → Int32 → Int32 → am_I → am_L → Option (Int32 × am_I × am_L)) (hg : ∀ (w : Nat) (e1 e2 e3 e4 e5 : Int32) (I : am_I) (L : am_L) (v : Int32) (I' : am_I) (L' : am_L), g w e1 e2 e3 e4 e5 I L = some (v, I', L') → (w = 0 → am_C x.2.1 yX12_condition cX12_condition 1 none (d + 6) [.ref 0] KM RM I L none I' L') ∧ (w = 1 → am_C x.2.1 yX12_unit cX12_unit 2 none (d + 6) [.ref 0] KM RM I L none I' L') ∧ (w = 2 → am_C x.2.1 yX12_goOnAnd cX12_goOnAnd 1 none (d + 6) [.ref 0] KM RM I L none I' L') ∧ (w = 3 → am_C x.2.1 yX12_goOnOr cX12_goOnOr 1 none (d + 6) [.ref 0] KM RM I L none I' L')) (hc : am_ok x cX12_goOnAnd yX12_goOnAnd 1 none (d + 7) 0 0) {I' : am_I} {L' : am_L} (m : Nat) : ∀ (I : am_I) (L : am_L) (hf : fX12_goOnAnd_b0 n d g m I L = some (I', L')), am_J x (fun S => S = (none, KM, RM, I', L')) 0 [some (.ref 0)] [] KM RM I L 0 0 := by
  induction m with
  | zero => intro I L hf; exact (Option.some_ne_none _ hf.symm).elim
  | succ m ih => intro I L hf; exact tX12_goOnAnd_b0w n d g hg hc (fX12_goOnAnd_b0 n d g m) ih I L hf

set_option maxRecDepth 100000 in
def fX12_goOnOr_b0w (n d : Nat) (g : Nat → Int32 → Int32 → Int32 → Int32 → Int32 → am_I → am_L → Option (Int32 × am_I × am_L)) (k0 : am_I → am_L → Option (am_I × am_L)) (I : am_I) (L : am_L) : Option (am_I × am_L) :=
  if (I 0 4) = (-1 : Int32) then
    (am_b3 (fX12_look n d I L) (fun v1 I1 L1 => if v1 = (124 : Int32) then
      (am_lt (am_up I1 0 3 ((I1 0 3) + (1 : Int32))) (fun I2 => am_b3 (g 1 0 0 0 0 0 I2 L1) (fun v3 I3 L3 => am_b3 (g 2 0 0 0 0 0 I3 L3) (fun v4 I4 L4 => am_b2 (fX12_put n d (11 : Int32) (0 : Int32) I4 L4) (fun I5 L5 => k0 I5 L5)))))
      else
      (some (I1, L1))))
    else
    (some (I, L))

set_option maxRecDepth 100000 in
set_option maxHeartbeats 4000000 in
theorem tX12_goOnOr_b0w {x : am_X} (n d : Nat) (g : Nat → Int32 → Int32 → Int32 → Int32 → Int32 → am_I → am_L → Option (Int32 × am_I × am_L)) (hg : ∀ (w : Nat) (e1 e2 e3 e4 e5 : Int32) (I : am_I) (L : am_L) (v : Int32) (I' : am_I) (L' : am_L), g w e1 e2 e3 e4 e5 I L = some (v, I', L') → (w = 0 → am_C x.2.1 yX12_condition cX12_condition 1 none (d + 6) [.ref 0] KM RM I L none I' L') ∧ (w = 1 → am_C x.2.1 yX12_unit cX12_unit 2 none (d + 6) [.ref 0] KM RM I L none I' L') ∧ (w = 2 → am_C x.2.1 yX12_goOnAnd cX12_goOnAnd 1 none (d + 6) [.ref 0] KM RM I L none I' L') ∧ (w = 3 → am_C x.2.1 yX12_goOnOr cX12_goOnOr 1 none (d + 6) [.ref 0] KM RM I L none I' L')) (hc : am_ok x cX12_goOnOr yX12_goOnOr 1 none (d + 7) 0 0) {I' : am_I} {L' : am_L} (k0 : am_I → am_L → Option (am_I × am_L)) (hk0 : ∀ (I : am_I) (L : am_L), k0 I L = some (I', L') → am_J x (fun S => S = (none, KM, RM, I', L')) 0 [some (.ref 0)] [] KM RM I L 0 0) (I : am_I) (L : am_L) (hf : fX12_goOnOr_b0w n d g k0 I L = some (I', L')) : am_J x (fun S => S = (none, KM, RM, I', L')) 0 [some (.ref 0)] [] KM RM I L 0 0 := by
  unfold fX12_goOnOr_b0w at hf
  refine j_aload_n hc dX12_goOnOr_0 rfl ?_
  refine j_getI hc dX12_goOnOr_1 fgM_X12_108_0 ?_
  refine j_iconst (v := (-1 : Int32)) hc dX12_goOnOr_4 ci_m1 ?_
  refine j_icmp_ne (tgt := 45) hc dX12_goOnOr_5 rfl hf (fun hf => ?_) (fun hf => ?_)
  · exact j_return hc dX12_goOnOr_45 rfl rfl hf
  · refine j_aload_n hc dX12_goOnOr_8 rfl ?_
    refine j_callVI (t := 0) (As := []) hc dX12_goOnOr_9 kw_1636 mX12_look kM_0 clX12 rfl (by omega) (Nat.le_of_ble_eq_true rfl) (Nat.le_of_ble_eq_true rfl) ⟨Nat.le_refl _, Nat.le_refl _⟩ hf (fun v I' L' h => qX12_look x.2.1 n d I L v I' L' h) (fun v1 I1 L1 hf => ?_)
    refine j_bipush (v := (124 : Int32)) hc dX12_goOnOr_12 cb_124 ?_
    refine j_icmp_ne (tgt := 45) hc dX12_goOnOr_14 rfl hf (fun hf => ?_) (fun hf => ?_)
    · exact j_return hc dX12_goOnOr_45 rfl rfl hf
    · refine j_aload_n hc dX12_goOnOr_17 rfl ?_
      refine j_dup hc dX12_goOnOr_18 rfl ?_
      refine j_getI hc dX12_goOnOr_19 fgM_X12_101_0 ?_
      refine j_iconst (v := (1 : Int32)) hc dX12_goOnOr_22 ci_1 ?_
      refine j_iadd hc dX12_goOnOr_23 ?_
      refine j_putI hc dX12_goOnOr_24 fpM_X12_101_0 rfl rfl hf (fun I2 hf => ?_)
      refine j_aload_n hc dX12_goOnOr_27 rfl ?_
      refine j_callVW (t := 0) (As := []) hc dX12_goOnOr_28 kw_1694 mX12_unit kM_0 clX12 rfl (by omega) (Nat.le_of_ble_eq_true rfl) (Nat.le_of_ble_eq_true rfl) ⟨Nat.le_refl _, Nat.le_refl _⟩ hf (fun v I' L' h => (hg 1 _ _ _ _ _ _ _ _ _ _ h).2.1 rfl) (fun v3 I3 L3 hf => ?_)
      refine j_aload_n hc dX12_goOnOr_31 rfl ?_
      refine j_callVW (t := 0) (As := []) hc dX12_goOnOr_32 kw_1736 mX12_goOnAnd kM_0 clX12 rfl (by omega) (Nat.le_of_ble_eq_true rfl) (Nat.le_of_ble_eq_true rfl) ⟨Nat.le_refl _, Nat.le_refl _⟩ hf (fun v I' L' h => (hg 2 _ _ _ _ _ _ _ _ _ _ h).2.2.1 rfl) (fun v4 I4 L4 hf => ?_)
      refine j_aload_n hc dX12_goOnOr_35 rfl ?_
      refine j_bipush (v := (11 : Int32)) hc dX12_goOnOr_36 cb_11 ?_
      refine j_iconst (v := (0 : Int32)) hc dX12_goOnOr_38 ci_0 ?_
      refine j_callVV (t := 0) (As := [.int (11 : Int32), .int (0 : Int32)]) hc dX12_goOnOr_39 kw_1702 mX12_put kM_0 clX12 rfl (by omega) (Nat.le_of_ble_eq_true rfl) (Nat.le_of_ble_eq_true rfl) ⟨Nat.le_refl _, Nat.le_refl _⟩ hf (fun I' L' h => qX12_put x.2.1 n d (11 : Int32) (0 : Int32) I4 L4 I' L' h) (fun I5 L5 hf => ?_)
      refine j_goto (tgt := 0) hc dX12_goOnOr_42 rfl ?_
      exact j_sub (hk0 _ _ hf) (And.intro rfl (trivial))

def fX12_goOnOr_b0 (n d : Nat) (g : Nat → Int32 → Int32 → Int32 → Int32 → Int32 → am_I → am_L → Option (Int32 × am_I × am_L)) : Nat → am_I → am_L → Option (am_I × am_L)
  | 0 => fun _ _ => none
  | m + 1 => fX12_goOnOr_b0w n d g (fX12_goOnOr_b0 n d g m)

set_option maxRecDepth 100000 in
theorem tX12_goOnOr_b0 {x : am_X} (n d : Nat) (g : Nat → Int32 → Int32 → Int32 → Int32 → Int32 → am_I → am_L → Option (Int32 × am_I × am_L)) (hg : ∀ (w : Nat) (e1 e2 e3 e4 e5 : Int32) (I : am_I) (L : am_L) (v : Int32) (I' : am_I) (L' : am_L), g w e1 e2 e3 e4 e5 I L = some (v, I', L') → (w = 0 → am_C x.2.1 yX12_condition cX12_condition 1 none (d + 6) [.ref 0] KM RM I L none I' L') ∧ (w = 1 → am_C x.2.1 yX12_unit cX12_unit 2 none (d + 6) [.ref 0] KM RM I L none I' L') ∧ (w = 2 → am_C x.2.1 yX12_goOnAnd cX12_goOnAnd 1 none (d + 6) [.ref 0] KM RM I L none I' L') ∧ (w = 3 → am_C x.2.1 yX12_goOnOr cX12_goOnOr 1 none (d + 6) [.ref 0] KM RM I L none I' L')) (hc : am_ok x cX12_goOnOr yX12_goOnOr 1 none (d + 7) 0 0) {I' : am_I} {L' : am_L} (m : Nat) : ∀ (I : am_I) (L : am_L) (hf : fX12_goOnOr_b0 n d g m I L = some (I', L')), am_J x (fun S => S = (none, KM, RM, I', L')) 0 [some (.ref 0)] [] KM RM I L 0 0 := by
  induction m with
  | zero => intro I L hf; exact (Option.some_ne_none _ hf.symm).elim
  | succ m ih => intro I L hf; exact tX12_goOnOr_b0w n d g hg hc (fX12_goOnOr_b0 n d g m) ih I L hf

def gX12_condition (n : Nat) : Nat → Nat → Int32 → Int32 → Int32 → Int32 → Int32 → am_I → am_L → Option (Int32 × am_I × am_L)
  | 0 => fun _ _ _ _ _ _ _ _ => none
  | d + 1 => fun w e1 e2 e3 e4 e5 I L => match w with
    | 0 => am_b2 (fX12_condition_g n d (gX12_condition n d)  I L) (fun I L => some (0, I, L))
    | 1 => am_b2 (fX12_unit_g n d (gX12_condition n d)  I L) (fun I L => some (0, I, L))
    | 2 => am_b2 (fX12_goOnAnd_b0 n d (gX12_condition n d) n  I L) (fun I L => some (0, I, L))
    | 3 => am_b2 (fX12_goOnOr_b0 n d (gX12_condition n d) n  I L) (fun I L => some (0, I, L))
    | _ => none
set_option maxRecDepth 100000 in
set_option maxHeartbeats 4000000 in
theorem cgX12_condition (l : Launch) (n d : Nat) : ∀ (w : Nat) (e1 e2 e3 e4 e5 : Int32) (I : am_I) (L : am_L) (v : Int32) (I' : am_I) (L' : am_L), gX12_condition n d w e1 e2 e3 e4 e5 I L = some (v, I', L') → (w = 0 → am_C l yX12_condition cX12_condition 1 none (d + 6) [.ref 0] KM RM I L none I' L') ∧ (w = 1 → am_C l yX12_unit cX12_unit 2 none (d + 6) [.ref 0] KM RM I L none I' L') ∧ (w = 2 → am_C l yX12_goOnAnd cX12_goOnAnd 1 none (d + 6) [.ref 0] KM RM I L none I' L') ∧ (w = 3 → am_C l yX12_goOnOr cX12_goOnOr 1 none (d + 6) [.ref 0] KM RM I L none I' L') := by
  induction d with
  | zero => intro w e1 e2 e3 e4 e5 I L v I' L' hf; exact (Option.some_ne_none _ hf.symm).elim
  | succ d ih =>
    intro w e1 e2 e3 e4 e5 I L v I' L' hf
    refine ⟨?_, ?_, ?_, ?_⟩
    · exact fun hw => by
          subst hw
          obtain ⟨I2, L2, h1, h2⟩ := am_b2E hf
          cases h2
          exact am_intro (plainFor_of_name plX12) (fun _ _ => trivial) (Nat.le_of_ble_eq_true rfl) (fun x hl hc => by subst hl; exact j_sub (tX12_condition_g n d (gX12_condition n d) ih hc  _ _ h1) (And.intro rfl (trivial)))
    · exact fun hw => by
          subst hw
          obtain ⟨I2, L2, h1, h2⟩ := am_b2E hf
          cases h2
          exact am_intro (plainFor_of_name plX12) (fun _ _ => trivial) (Nat.le_of_ble_eq_true rfl) (fun x hl hc => by subst hl; exact j_sub (tX12_unit_g n d (gX12_condition n d) ih hc  _ _ h1) (And.intro rfl (trivial)))
    · exact fun hw => by
          subst hw
          obtain ⟨I2, L2, h1, h2⟩ := am_b2E hf
          cases h2
          exact am_intro (plainFor_of_name plX12) (fun _ _ => trivial) (Nat.le_of_ble_eq_true rfl) (fun x hl hc => by subst hl; exact j_sub (tX12_goOnAnd_b0 n d (gX12_condition n d) ih hc n  _ _ h1) (And.intro rfl (trivial)))
    · exact fun hw => by
          subst hw
          obtain ⟨I2, L2, h1, h2⟩ := am_b2E hf
          cases h2
          exact am_intro (plainFor_of_name plX12) (fun _ _ => trivial) (Nat.le_of_ble_eq_true rfl) (fun x hl hc => by subst hl; exact j_sub (tX12_goOnOr_b0 n d (gX12_condition n d) ih hc n  _ _ h1) (And.intro rfl (trivial)))
def fX12_condition (n d : Nat) (I : am_I) (L : am_L) : Option (am_I × am_L) := am_b3 (gX12_condition n d 0 0 0 0 0 0 I L) (fun _ I L => some (I, L))
theorem qX12_condition (l : Launch) (n d : Nat) (I : am_I) (L : am_L) (I' : am_I) (L' : am_L) (hf : fX12_condition n d I L = some (I', L')) : am_C l yX12_condition cX12_condition 1 none (d + 6) [.ref 0] KM RM I L none I' L' := by
  obtain ⟨v, I2, L2, h1, h2⟩ := am_b3E hf
  cases h2
  exact (cgX12_condition l n d _ _ _ _ _ _ _ _ _ _ _ h1).1 rfl
def fX12_unit (n d : Nat) (I : am_I) (L : am_L) : Option (am_I × am_L) := am_b3 (gX12_condition n d 1 0 0 0 0 0 I L) (fun _ I L => some (I, L))
theorem qX12_unit (l : Launch) (n d : Nat) (I : am_I) (L : am_L) (I' : am_I) (L' : am_L) (hf : fX12_unit n d I L = some (I', L')) : am_C l yX12_unit cX12_unit 2 none (d + 6) [.ref 0] KM RM I L none I' L' := by
  obtain ⟨v, I2, L2, h1, h2⟩ := am_b3E hf
  cases h2
  exact (cgX12_condition l n d _ _ _ _ _ _ _ _ _ _ _ h1).2.1 rfl
def fX12_goOnAnd (n d : Nat) (I : am_I) (L : am_L) : Option (am_I × am_L) := am_b3 (gX12_condition n d 2 0 0 0 0 0 I L) (fun _ I L => some (I, L))
theorem qX12_goOnAnd (l : Launch) (n d : Nat) (I : am_I) (L : am_L) (I' : am_I) (L' : am_L) (hf : fX12_goOnAnd n d I L = some (I', L')) : am_C l yX12_goOnAnd cX12_goOnAnd 1 none (d + 6) [.ref 0] KM RM I L none I' L' := by
  obtain ⟨v, I2, L2, h1, h2⟩ := am_b3E hf
  cases h2
  exact (cgX12_condition l n d _ _ _ _ _ _ _ _ _ _ _ h1).2.2.1 rfl
def fX12_goOnOr (n d : Nat) (I : am_I) (L : am_L) : Option (am_I × am_L) := am_b3 (gX12_condition n d 3 0 0 0 0 0 I L) (fun _ I L => some (I, L))
theorem qX12_goOnOr (l : Launch) (n d : Nat) (I : am_I) (L : am_L) (I' : am_I) (L' : am_L) (hf : fX12_goOnOr n d I L = some (I', L')) : am_C l yX12_goOnOr cX12_goOnOr 1 none (d + 6) [.ref 0] KM RM I L none I' L' := by
  obtain ⟨v, I2, L2, h1, h2⟩ := am_b3E hf
  cases h2
  exact (cgX12_condition l n d _ _ _ _ _ _ _ _ _ _ _ h1).2.2.2 rfl
set_option maxRecDepth 100000 in
def fX12_clause_b251 (n d : Nat) (a1 : Int32) (I : am_I) (L : am_L) : Option (am_I × am_L) :=
  am_ck (I 0 14) 5 (am_lt (I 4 ((I 0 14)).toNatClampNeg) (fun v1 => am_ck a1 700 (am_lt (am_up I 8 (a1).toNatClampNeg v1) (fun I2 => am_ck (I2 0 14) 5 (am_lt (I2 5 ((I2 0 14)).toNatClampNeg) (fun v3 => am_ck (I2 0 14) 5 (am_lt (am_up I2 5 ((I2 0 14)).toNatClampNeg (v3 + (1 : Int32))) (fun I4 => some (I4, L)))))))))

set_option maxRecDepth 100000 in
set_option maxHeartbeats 4000000 in
theorem tX12_clause_b251 {x : am_X} (n d : Nat) (hc : am_ok x cX12_clause yX12_clause 3 none (d + 7) 0 0) {I' : am_I} {L' : am_L} (a1 : Int32) (I : am_I) (L : am_L) (hf : fX12_clause_b251 n d a1 I L = some (I', L')) : am_J x (fun S => S = (none, KM, RM, I', L')) 251 [some (.ref 0), some (.int a1), none] [] KM RM I L 0 0 := by
  unfold fX12_clause_b251 at hf
  refine j_aload_n hc dX12_clause_251 rfl ?_
  refine j_getR (u := 8) hc dX12_clause_252 fgM_X12_31_0 rM_0_12 ?_
  refine j_iload_n hc dX12_clause_255 rfl ?_
  refine j_aload_n hc dX12_clause_256 rfl ?_
  refine j_getR (u := 4) hc dX12_clause_257 fgM_X12_19_0 rM_0_8 ?_
  refine j_aload_n hc dX12_clause_260 rfl ?_
  refine j_getI hc dX12_clause_261 fgM_X12_111_0 ?_
  refine j_iaload (n := 5) hc dX12_clause_264 kM_4 hf (fun v1 hf => ?_)
  refine j_iastore (n := 700) hc dX12_clause_265 kM_8 hf (fun I2 hf => ?_)
  refine j_aload_n hc dX12_clause_266 rfl ?_
  refine j_getR (u := 5) hc dX12_clause_267 fgM_X12_22_0 rM_0_9 ?_
  refine j_aload_n hc dX12_clause_270 rfl ?_
  refine j_getI hc dX12_clause_271 fgM_X12_111_0 ?_
  refine j_dup2 hc dX12_clause_274 rfl rfl ?_
  refine j_iaload (n := 5) hc dX12_clause_275 kM_5 hf (fun v3 hf => ?_)
  refine j_iconst (v := (1 : Int32)) hc dX12_clause_276 ci_1 ?_
  refine j_iadd hc dX12_clause_277 ?_
  refine j_iastore (n := 5) hc dX12_clause_278 kM_5 hf (fun I4 hf => ?_)
  exact j_return hc dX12_clause_279 rfl rfl hf

set_option maxRecDepth 100000 in
def fX12_clause_b184 (n d : Nat) (a1 : Int32) (a2 : Int32) (I : am_I) (L : am_L) : Option (am_I × am_L) :=
  am_ck a1 700 (am_lt (I 6 (a1).toNatClampNeg) (fun v1 => am_ck a1 700 (am_lt (am_up I 7 (a1).toNatClampNeg v1) (fun I2 => if a2 = 0 then
    (fX12_clause_b251 n d a1 I2 L)
    else
    (if (I2 0 4) = (-1 : Int32) then
      (am_b3 (fX12_look n d I2 L) (fun v3 I3 L3 => if v3 = (63 : Int32) then
        (am_lt (am_up I3 0 3 ((I3 0 3) + (1 : Int32))) (fun I4 => am_ck (I4 0 14) 5 (am_lt (I4 4 ((I4 0 14)).toNatClampNeg) (fun v5 => am_ck a1 700 (am_lt (am_up I4 7 (a1).toNatClampNeg v5) (fun I6 => am_b2 (fX12_sum n d I6 L3) (fun I7 L7 => fX12_clause_b251 n d a1 I7 L7)))))))
        else
        (am_b2 (fX12_bad n d I3 L3) (fun I8 L8 => some (I8, L8)))))
      else
      (fX12_clause_b251 n d a1 I2 L))))))

set_option maxRecDepth 100000 in
set_option maxHeartbeats 4000000 in
theorem tX12_clause_b184 {x : am_X} (n d : Nat) (hc : am_ok x cX12_clause yX12_clause 3 none (d + 7) 0 0) {I' : am_I} {L' : am_L} (a1 : Int32) (a2 : Int32) (I : am_I) (L : am_L) (hf : fX12_clause_b184 n d a1 a2 I L = some (I', L')) : am_J x (fun S => S = (none, KM, RM, I', L')) 184 [some (.ref 0), some (.int a1), some (.int a2)] [] KM RM I L 0 0 := by
  unfold fX12_clause_b184 at hf
  refine j_aload_n hc dX12_clause_184 rfl ?_
  refine j_getR (u := 7) hc dX12_clause_185 fgM_X12_28_0 rM_0_11 ?_
  refine j_iload_n hc dX12_clause_188 rfl ?_
  refine j_aload_n hc dX12_clause_189 rfl ?_
  refine j_getR (u := 6) hc dX12_clause_190 fgM_X12_25_0 rM_0_10 ?_
  refine j_iload_n hc dX12_clause_193 rfl ?_
  refine j_iaload (n := 700) hc dX12_clause_194 kM_6 hf (fun v1 hf => ?_)
  refine j_iastore (n := 700) hc dX12_clause_195 kM_7 hf (fun I2 hf => ?_)
  refine j_iload_n hc dX12_clause_196 rfl ?_
  refine j_if_eq (tgt := 251) hc dX12_clause_197 rfl hf (fun hf => ?_) (fun hf => ?_)
  · exact j_sub (tX12_clause_b251 n d hc _ _ _ hf) (And.intro rfl (And.intro rfl (trivial)))
  · refine j_aload_n hc dX12_clause_200 rfl ?_
    refine j_getI hc dX12_clause_201 fgM_X12_108_0 ?_
    refine j_iconst (v := (-1 : Int32)) hc dX12_clause_204 ci_m1 ?_
    refine j_icmp_ne (tgt := 251) hc dX12_clause_205 rfl hf (fun hf => ?_) (fun hf => ?_)
    · exact j_sub (tX12_clause_b251 n d hc _ _ _ hf) (And.intro rfl (And.intro rfl (trivial)))
    · refine j_aload_n hc dX12_clause_208 rfl ?_
      refine j_callVI (t := 0) (As := []) hc dX12_clause_209 kw_1636 mX12_look kM_0 clX12 rfl (by omega) (Nat.le_of_ble_eq_true rfl) (Nat.le_of_ble_eq_true rfl) ⟨Nat.le_refl _, Nat.le_refl _⟩ hf (fun v I' L' h => qX12_look x.2.1 n d I2 L v I' L' h) (fun v3 I3 L3 hf => ?_)
      refine j_bipush (v := (63 : Int32)) hc dX12_clause_212 cb_63 ?_
      refine j_icmp_eq (tgt := 222) hc dX12_clause_214 rfl hf (fun hf => ?_) (fun hf => ?_)
      · refine j_aload_n hc dX12_clause_222 rfl ?_
        refine j_dup hc dX12_clause_223 rfl ?_
        refine j_getI hc dX12_clause_224 fgM_X12_101_0 ?_
        refine j_iconst (v := (1 : Int32)) hc dX12_clause_227 ci_1 ?_
        refine j_iadd hc dX12_clause_228 ?_
        refine j_putI hc dX12_clause_229 fpM_X12_101_0 rfl rfl hf (fun I4 hf => ?_)
        refine j_aload_n hc dX12_clause_232 rfl ?_
        refine j_getR (u := 7) hc dX12_clause_233 fgM_X12_28_0 rM_0_11 ?_
        refine j_iload_n hc dX12_clause_236 rfl ?_
        refine j_aload_n hc dX12_clause_237 rfl ?_
        refine j_getR (u := 4) hc dX12_clause_238 fgM_X12_19_0 rM_0_8 ?_
        refine j_aload_n hc dX12_clause_241 rfl ?_
        refine j_getI hc dX12_clause_242 fgM_X12_111_0 ?_
        refine j_iaload (n := 5) hc dX12_clause_245 kM_4 hf (fun v5 hf => ?_)
        refine j_iastore (n := 700) hc dX12_clause_246 kM_7 hf (fun I6 hf => ?_)
        refine j_aload_n hc dX12_clause_247 rfl ?_
        refine j_callVV (t := 0) (As := []) hc dX12_clause_248 kw_1710 mX12_sum kM_0 clX12 rfl (by omega) (Nat.le_of_ble_eq_true rfl) (Nat.le_of_ble_eq_true rfl) ⟨Nat.le_refl _, Nat.le_refl _⟩ hf (fun I' L' h => qX12_sum x.2.1 n d I6 L3 I' L' h) (fun I7 L7 hf => ?_)
        exact j_sub (tX12_clause_b251 n d hc _ _ _ hf) (And.intro rfl (And.intro rfl (trivial)))
      · refine j_aload_n hc dX12_clause_217 rfl ?_
        refine j_callVV (t := 0) (As := []) hc dX12_clause_218 kw_1667 mX12_bad kM_0 clX12 rfl (by omega) (Nat.le_of_ble_eq_true rfl) (Nat.le_of_ble_eq_true rfl) ⟨Nat.le_refl _, Nat.le_refl _⟩ hf (fun I' L' h => qX12_bad x.2.1 n d I3 L3 I' L' h) (fun I8 L8 hf => ?_)
        exact j_return hc dX12_clause_221 rfl rfl hf

set_option maxRecDepth 100000 in
def fX12_clause_b167 (n d : Nat) (s0 : Int32) (a1 : Int32) (I : am_I) (L : am_L) : Option (am_I × am_L) :=
  am_lt s0 (fun v1 => if v1 = 0 then
    (fX12_clause_b184 n d a1 v1 I L)
    else
    (am_b2 (fX12_compare n d I L) (fun I2 L2 => am_b2 (fX12_goOnAnd n d I2 L2) (fun I3 L3 => am_b2 (fX12_goOnOr n d I3 L3) (fun I4 L4 => fX12_clause_b184 n d a1 v1 I4 L4)))))

set_option maxRecDepth 100000 in
set_option maxHeartbeats 4000000 in
theorem tX12_clause_b167 {x : am_X} (n d : Nat) (hc : am_ok x cX12_clause yX12_clause 3 none (d + 7) 0 0) {I' : am_I} {L' : am_L} (s0 : Int32) (a1 : Int32) (I : am_I) (L : am_L) (hf : fX12_clause_b167 n d s0 a1 I L = some (I', L')) : am_J x (fun S => S = (none, KM, RM, I', L')) 167 [some (.ref 0), some (.int a1), none] [.int s0] KM RM I L 0 0 := by
  unfold fX12_clause_b167 at hf
  refine j_istore_n hc dX12_clause_167 (Nat.le_of_ble_eq_true rfl) hf (fun v1 hf => ?_)
  refine j_iload_n hc dX12_clause_168 rfl ?_
  refine j_if_eq (tgt := 184) hc dX12_clause_169 rfl hf (fun hf => ?_) (fun hf => ?_)
  · exact j_sub (tX12_clause_b184 n d hc _ _ _ _ hf) (And.intro rfl (And.intro rfl (And.intro rfl (trivial))))
  · refine j_aload_n hc dX12_clause_172 rfl ?_
    refine j_callVV (t := 0) (As := []) hc dX12_clause_173 kw_1729 mX12_compare kM_0 clX12 rfl (by omega) (Nat.le_of_ble_eq_true rfl) (Nat.le_of_ble_eq_true rfl) ⟨Nat.le_refl _, Nat.le_refl _⟩ hf (fun I' L' h => qX12_compare x.2.1 n d I L I' L' h) (fun I2 L2 hf => ?_)
    refine j_aload_n hc dX12_clause_176 rfl ?_
    refine j_callVV (t := 0) (As := []) hc dX12_clause_177 kw_1736 mX12_goOnAnd kM_0 clX12 rfl (by omega) (Nat.le_of_ble_eq_true rfl) (Nat.le_of_ble_eq_true rfl) ⟨Nat.le_refl _, Nat.le_refl _⟩ hf (fun I' L' h => qX12_goOnAnd x.2.1 n d I2 L2 I' L' h) (fun I3 L3 hf => ?_)
    refine j_aload_n hc dX12_clause_180 rfl ?_
    refine j_callVV (t := 0) (As := []) hc dX12_clause_181 kw_1740 mX12_goOnOr kM_0 clX12 rfl (by omega) (Nat.le_of_ble_eq_true rfl) (Nat.le_of_ble_eq_true rfl) ⟨Nat.le_refl _, Nat.le_refl _⟩ hf (fun I' L' h => qX12_goOnOr x.2.1 n d I3 L3 I' L' h) (fun I4 L4 hf => ?_)
    exact j_sub (tX12_clause_b184 n d hc _ _ _ _ hf) (And.intro rfl (And.intro rfl (And.intro rfl (trivial))))

set_option maxRecDepth 100000 in
def fX12_clause_b166 (n d : Nat) (a1 : Int32) (I : am_I) (L : am_L) : Option (am_I × am_L) :=
  fX12_clause_b167 n d (0 : Int32) a1 I L

set_option maxRecDepth 100000 in
set_option maxHeartbeats 4000000 in
theorem tX12_clause_b166 {x : am_X} (n d : Nat) (hc : am_ok x cX12_clause yX12_clause 3 none (d + 7) 0 0) {I' : am_I} {L' : am_L} (a1 : Int32) (I : am_I) (L : am_L) (hf : fX12_clause_b166 n d a1 I L = some (I', L')) : am_J x (fun S => S = (none, KM, RM, I', L')) 166 [some (.ref 0), some (.int a1), none] [] KM RM I L 0 0 := by
  unfold fX12_clause_b166 at hf
  refine j_iconst (v := (0 : Int32)) hc dX12_clause_166 ci_0 ?_
  exact j_sub (tX12_clause_b167 n d hc _ _ _ _ hf) (And.intro rfl (And.intro rfl (trivial)))

set_option maxRecDepth 100000 in
def fX12_clause_b128 (n d : Nat) (s0 : Int32) (a1 : Int32) (I : am_I) (L : am_L) : Option (am_I × am_L) :=
  am_lt s0 (fun v1 => if v1 = 0 then
    (am_b2 (fX12_sum n d I L) (fun I2 L2 => if (I2 0 4) = (-1 : Int32) then
      (am_b3 (fX12_look n d I2 L2) (fun v3 I3 L3 => am_b3 (fX12_isSign n d v3 I3 L3) (fun v4 I4 L4 => if v4 = 0 then
        (fX12_clause_b166 n d a1 I4 L4)
        else
        (fX12_clause_b167 n d (1 : Int32) a1 I4 L4))))
      else
      (fX12_clause_b166 n d a1 I2 L2)))
    else
    (am_b2 (fX12_condition n d I L) (fun I5 L5 => fX12_clause_b184 n d a1 v1 I5 L5)))

set_option maxRecDepth 100000 in
set_option maxHeartbeats 4000000 in
theorem tX12_clause_b128 {x : am_X} (n d : Nat) (hc : am_ok x cX12_clause yX12_clause 3 none (d + 7) 0 0) {I' : am_I} {L' : am_L} (s0 : Int32) (a1 : Int32) (I : am_I) (L : am_L) (hf : fX12_clause_b128 n d s0 a1 I L = some (I', L')) : am_J x (fun S => S = (none, KM, RM, I', L')) 128 [some (.ref 0), some (.int a1), none] [.int s0] KM RM I L 0 0 := by
  unfold fX12_clause_b128 at hf
  refine j_istore_n hc dX12_clause_128 (Nat.le_of_ble_eq_true rfl) hf (fun v1 hf => ?_)
  refine j_iload_n hc dX12_clause_129 rfl ?_
  refine j_if_eq (tgt := 140) hc dX12_clause_130 rfl hf (fun hf => ?_) (fun hf => ?_)
  · refine j_aload_n hc dX12_clause_140 rfl ?_
    refine j_callVV (t := 0) (As := []) hc dX12_clause_141 kw_1710 mX12_sum kM_0 clX12 rfl (by omega) (Nat.le_of_ble_eq_true rfl) (Nat.le_of_ble_eq_true rfl) ⟨Nat.le_refl _, Nat.le_refl _⟩ hf (fun I' L' h => qX12_sum x.2.1 n d I L I' L' h) (fun I2 L2 hf => ?_)
    refine j_aload_n hc dX12_clause_144 rfl ?_
    refine j_getI hc dX12_clause_145 fgM_X12_108_0 ?_
    refine j_iconst (v := (-1 : Int32)) hc dX12_clause_148 ci_m1 ?_
    refine j_icmp_ne (tgt := 166) hc dX12_clause_149 rfl hf (fun hf => ?_) (fun hf => ?_)
    · exact j_sub (tX12_clause_b166 n d hc _ _ _ hf) (And.intro rfl (And.intro rfl (trivial)))
    · refine j_aload_n hc dX12_clause_152 rfl ?_
      refine j_callVI (t := 0) (As := []) hc dX12_clause_153 kw_1636 mX12_look kM_0 clX12 rfl (by omega) (Nat.le_of_ble_eq_true rfl) (Nat.le_of_ble_eq_true rfl) ⟨Nat.le_refl _, Nat.le_refl _⟩ hf (fun v I' L' h => qX12_look x.2.1 n d I2 L2 v I' L' h) (fun v3 I3 L3 hf => ?_)
      refine j_callSI (As := [.int v3]) hc dX12_clause_156 kw_1733 mX12_isSign  rfl (by omega) (Nat.le_of_ble_eq_true rfl) (Nat.le_of_ble_eq_true rfl) ⟨Nat.le_refl _, Nat.le_refl _⟩ hf (fun v I' L' h => qX12_isSign x.2.1 n d v3 I3 L3 v I' L' h) (fun v4 I4 L4 hf => ?_)
      refine j_if_eq (tgt := 166) hc dX12_clause_159 rfl hf (fun hf => ?_) (fun hf => ?_)
      · exact j_sub (tX12_clause_b166 n d hc _ _ _ hf) (And.intro rfl (And.intro rfl (trivial)))
      · refine j_iconst (v := (1 : Int32)) hc dX12_clause_162 ci_1 ?_
        refine j_goto (tgt := 167) hc dX12_clause_163 rfl ?_
        exact j_sub (tX12_clause_b167 n d hc _ _ _ _ hf) (And.intro rfl (And.intro rfl (trivial)))
  · refine j_aload_n hc dX12_clause_133 rfl ?_
    refine j_callVV (t := 0) (As := []) hc dX12_clause_134 kw_1690 mX12_condition kM_0 clX12 rfl (by omega) (Nat.le_of_ble_eq_true rfl) (Nat.le_of_ble_eq_true rfl) ⟨Nat.le_refl _, Nat.le_refl _⟩ hf (fun I' L' h => qX12_condition x.2.1 n d I L I' L' h) (fun I5 L5 hf => ?_)
    refine j_goto (tgt := 184) hc dX12_clause_137 rfl ?_
    exact j_sub (tX12_clause_b184 n d hc _ _ _ _ hf) (And.intro rfl (And.intro rfl (And.intro rfl (trivial))))

set_option maxRecDepth 100000 in
def fX12_clause_b123 (n d : Nat) (a1 : Int32) (I : am_I) (L : am_L) : Option (am_I × am_L) :=
  fX12_clause_b128 n d (1 : Int32) a1 I L

set_option maxRecDepth 100000 in
set_option maxHeartbeats 4000000 in
theorem tX12_clause_b123 {x : am_X} (n d : Nat) (hc : am_ok x cX12_clause yX12_clause 3 none (d + 7) 0 0) {I' : am_I} {L' : am_L} (a1 : Int32) (I : am_I) (L : am_L) (hf : fX12_clause_b123 n d a1 I L = some (I', L')) : am_J x (fun S => S = (none, KM, RM, I', L')) 123 [some (.ref 0), some (.int a1), none] [] KM RM I L 0 0 := by
  unfold fX12_clause_b123 at hf
  refine j_iconst (v := (1 : Int32)) hc dX12_clause_123 ci_1 ?_
  refine j_goto (tgt := 128) hc dX12_clause_124 rfl ?_
  exact j_sub (tX12_clause_b128 n d hc _ _ _ _ hf) (And.intro rfl (And.intro rfl (trivial)))

set_option maxRecDepth 100000 in
def fX12_clause_b71 (n d : Nat) (a1 : Int32) (I : am_I) (L : am_L) : Option (am_I × am_L) :=
  am_lt (am_up I 0 3 ((I 0 3) + (1 : Int32))) (fun I1 => if (I1 0 4) = (-1 : Int32) then
    (am_ck (I1 0 14) 5 (am_lt (I1 4 ((I1 0 14)).toNatClampNeg) (fun v2 => am_ck a1 700 (am_lt (am_up I1 6 (a1).toNatClampNeg v2) (fun I3 => am_b3 (fX12_look n d I3 L) (fun v4 I4 L4 => if v4 = (33 : Int32) then
      (fX12_clause_b123 n d a1 I4 L4)
      else
      (am_b3 (fX12_look n d I4 L4) (fun v5 I5 L5 => if v5 = (40 : Int32) then
        (fX12_clause_b123 n d a1 I5 L5)
        else
        (fX12_clause_b128 n d (0 : Int32) a1 I5 L5)))))))))
    else
    (some (I1, L)))

set_option maxRecDepth 100000 in
set_option maxHeartbeats 4000000 in
theorem tX12_clause_b71 {x : am_X} (n d : Nat) (hc : am_ok x cX12_clause yX12_clause 3 none (d + 7) 0 0) {I' : am_I} {L' : am_L} (a1 : Int32) (I : am_I) (L : am_L) (hf : fX12_clause_b71 n d a1 I L = some (I', L')) : am_J x (fun S => S = (none, KM, RM, I', L')) 71 [some (.ref 0), some (.int a1), none] [] KM RM I L 0 0 := by
  unfold fX12_clause_b71 at hf
  refine j_aload_n hc dX12_clause_71 rfl ?_
  refine j_dup hc dX12_clause_72 rfl ?_
  refine j_getI hc dX12_clause_73 fgM_X12_101_0 ?_
  refine j_iconst (v := (1 : Int32)) hc dX12_clause_76 ci_1 ?_
  refine j_iadd hc dX12_clause_77 ?_
  refine j_putI hc dX12_clause_78 fpM_X12_101_0 rfl rfl hf (fun I1 hf => ?_)
  refine j_aload_n hc dX12_clause_81 rfl ?_
  refine j_getI hc dX12_clause_82 fgM_X12_108_0 ?_
  refine j_iconst (v := (-1 : Int32)) hc dX12_clause_85 ci_m1 ?_
  refine j_icmp_eq (tgt := 90) hc dX12_clause_86 rfl hf (fun hf => ?_) (fun hf => ?_)
  · refine j_aload_n hc dX12_clause_90 rfl ?_
    refine j_getR (u := 6) hc dX12_clause_91 fgM_X12_25_0 rM_0_10 ?_
    refine j_iload_n hc dX12_clause_94 rfl ?_
    refine j_aload_n hc dX12_clause_95 rfl ?_
    refine j_getR (u := 4) hc dX12_clause_96 fgM_X12_19_0 rM_0_8 ?_
    refine j_aload_n hc dX12_clause_99 rfl ?_
    refine j_getI hc dX12_clause_100 fgM_X12_111_0 ?_
    refine j_iaload (n := 5) hc dX12_clause_103 kM_4 hf (fun v2 hf => ?_)
    refine j_iastore (n := 700) hc dX12_clause_104 kM_6 hf (fun I3 hf => ?_)
    refine j_aload_n hc dX12_clause_105 rfl ?_
    refine j_callVI (t := 0) (As := []) hc dX12_clause_106 kw_1636 mX12_look kM_0 clX12 rfl (by omega) (Nat.le_of_ble_eq_true rfl) (Nat.le_of_ble_eq_true rfl) ⟨Nat.le_refl _, Nat.le_refl _⟩ hf (fun v I' L' h => qX12_look x.2.1 n d I3 L v I' L' h) (fun v4 I4 L4 hf => ?_)
    refine j_bipush (v := (33 : Int32)) hc dX12_clause_109 cb_33 ?_
    refine j_icmp_eq (tgt := 123) hc dX12_clause_111 rfl hf (fun hf => ?_) (fun hf => ?_)
    · exact j_sub (tX12_clause_b123 n d hc _ _ _ hf) (And.intro rfl (And.intro rfl (trivial)))
    · refine j_aload_n hc dX12_clause_114 rfl ?_
      refine j_callVI (t := 0) (As := []) hc dX12_clause_115 kw_1636 mX12_look kM_0 clX12 rfl (by omega) (Nat.le_of_ble_eq_true rfl) (Nat.le_of_ble_eq_true rfl) ⟨Nat.le_refl _, Nat.le_refl _⟩ hf (fun v I' L' h => qX12_look x.2.1 n d I4 L4 v I' L' h) (fun v5 I5 L5 hf => ?_)
      refine j_bipush (v := (40 : Int32)) hc dX12_clause_118 cb_40 ?_
      refine j_icmp_ne (tgt := 127) hc dX12_clause_120 rfl hf (fun hf => ?_) (fun hf => ?_)
      · refine j_iconst (v := (0 : Int32)) hc dX12_clause_127 ci_0 ?_
        exact j_sub (tX12_clause_b128 n d hc _ _ _ _ hf) (And.intro rfl (And.intro rfl (trivial)))
      · exact j_sub (tX12_clause_b123 n d hc _ _ _ hf) (And.intro rfl (And.intro rfl (trivial)))
  · exact j_return hc dX12_clause_89 rfl rfl hf

set_option maxRecDepth 100000 in
def fX12_clause_b40 (n d : Nat) (a1 : Int32) (I : am_I) (L : am_L) : Option (am_I × am_L) :=
  am_lt (am_up I 0 3 ((I 0 3) + (1 : Int32))) (fun I1 => if (I1 0 4) = (-1 : Int32) then
    (am_b3 (fX12_look n d I1 L) (fun v2 I2 L2 => if v2 = (58 : Int32) then
      (fX12_clause_b71 n d a1 I2 L2)
      else
      (am_b2 (fX12_bad n d I2 L2) (fun I3 L3 => fX12_clause_b71 n d a1 I3 L3))))
    else
    (fX12_clause_b71 n d a1 I1 L))

set_option maxRecDepth 100000 in
set_option maxHeartbeats 4000000 in
theorem tX12_clause_b40 {x : am_X} (n d : Nat) (hc : am_ok x cX12_clause yX12_clause 3 none (d + 7) 0 0) {I' : am_I} {L' : am_L} (a1 : Int32) (I : am_I) (L : am_L) (hf : fX12_clause_b40 n d a1 I L = some (I', L')) : am_J x (fun S => S = (none, KM, RM, I', L')) 40 [some (.ref 0), some (.int a1), none] [] KM RM I L 0 0 := by
  unfold fX12_clause_b40 at hf
  refine j_aload_n hc dX12_clause_40 rfl ?_
  refine j_dup hc dX12_clause_41 rfl ?_
  refine j_getI hc dX12_clause_42 fgM_X12_101_0 ?_
  refine j_iconst (v := (1 : Int32)) hc dX12_clause_45 ci_1 ?_
  refine j_iadd hc dX12_clause_46 ?_
  refine j_putI hc dX12_clause_47 fpM_X12_101_0 rfl rfl hf (fun I1 hf => ?_)
  refine j_aload_n hc dX12_clause_50 rfl ?_
  refine j_getI hc dX12_clause_51 fgM_X12_108_0 ?_
  refine j_iconst (v := (-1 : Int32)) hc dX12_clause_54 ci_m1 ?_
  refine j_icmp_ne (tgt := 71) hc dX12_clause_55 rfl hf (fun hf => ?_) (fun hf => ?_)
  · exact j_sub (tX12_clause_b71 n d hc _ _ _ hf) (And.intro rfl (And.intro rfl (trivial)))
  · refine j_aload_n hc dX12_clause_58 rfl ?_
    refine j_callVI (t := 0) (As := []) hc dX12_clause_59 kw_1636 mX12_look kM_0 clX12 rfl (by omega) (Nat.le_of_ble_eq_true rfl) (Nat.le_of_ble_eq_true rfl) ⟨Nat.le_refl _, Nat.le_refl _⟩ hf (fun v I' L' h => qX12_look x.2.1 n d I1 L v I' L' h) (fun v2 I2 L2 hf => ?_)
    refine j_bipush (v := (58 : Int32)) hc dX12_clause_62 cb_58 ?_
    refine j_icmp_eq (tgt := 71) hc dX12_clause_64 rfl hf (fun hf => ?_) (fun hf => ?_)
    · exact j_sub (tX12_clause_b71 n d hc _ _ _ hf) (And.intro rfl (And.intro rfl (trivial)))
    · refine j_aload_n hc dX12_clause_67 rfl ?_
      refine j_callVV (t := 0) (As := []) hc dX12_clause_68 kw_1667 mX12_bad kM_0 clX12 rfl (by omega) (Nat.le_of_ble_eq_true rfl) (Nat.le_of_ble_eq_true rfl) ⟨Nat.le_refl _, Nat.le_refl _⟩ hf (fun I' L' h => qX12_bad x.2.1 n d I2 L2 I' L' h) (fun I3 L3 hf => ?_)
      exact j_sub (tX12_clause_b71 n d hc _ _ _ hf) (And.intro rfl (And.intro rfl (trivial)))

set_option maxRecDepth 100000 in
def fX12_clause (n d : Nat) (I : am_I) (L : am_L) : Option (am_I × am_L) :=
  am_ck (I 0 14) 5 (am_lt (I 5 ((I 0 14)).toNatClampNeg) (fun v1 => am_lt (((140 : Int32) * (I 0 14)) + v1) (fun v2 => if (I 0 4) = (-1 : Int32) then
    (am_b3 (fX12_look n d I L) (fun v3 I3 L3 => if v3 = (121 : Int32) then
      (fX12_clause_b40 n d v2 I3 L3)
      else
      (am_b2 (fX12_bad n d I3 L3) (fun I4 L4 => fX12_clause_b40 n d v2 I4 L4))))
    else
    (fX12_clause_b40 n d v2 I L))))

set_option maxRecDepth 100000 in
set_option maxHeartbeats 4000000 in
theorem tX12_clause {x : am_X} (n d : Nat) (hc : am_ok x cX12_clause yX12_clause 3 none (d + 7) 0 0) {I' : am_I} {L' : am_L} (I : am_I) (L : am_L) (hf : fX12_clause n d I L = some (I', L')) : am_J x (fun S => S = (none, KM, RM, I', L')) 0 [some (.ref 0), none, none] [] KM RM I L 0 0 := by
  unfold fX12_clause at hf
  refine j_sipush (v := (140 : Int32)) hc dX12_clause_0 cs_140 ?_
  refine j_aload_n hc dX12_clause_3 rfl ?_
  refine j_getI hc dX12_clause_4 fgM_X12_111_0 ?_
  refine j_imul hc dX12_clause_7 ?_
  refine j_aload_n hc dX12_clause_8 rfl ?_
  refine j_getR (u := 5) hc dX12_clause_9 fgM_X12_22_0 rM_0_9 ?_
  refine j_aload_n hc dX12_clause_12 rfl ?_
  refine j_getI hc dX12_clause_13 fgM_X12_111_0 ?_
  refine j_iaload (n := 5) hc dX12_clause_16 kM_5 hf (fun v1 hf => ?_)
  refine j_iadd hc dX12_clause_17 ?_
  refine j_istore_n hc dX12_clause_18 (Nat.le_of_ble_eq_true rfl) hf (fun v2 hf => ?_)
  refine j_aload_n hc dX12_clause_19 rfl ?_
  refine j_getI hc dX12_clause_20 fgM_X12_108_0 ?_
  refine j_iconst (v := (-1 : Int32)) hc dX12_clause_23 ci_m1 ?_
  refine j_icmp_ne (tgt := 40) hc dX12_clause_24 rfl hf (fun hf => ?_) (fun hf => ?_)
  · exact j_sub (tX12_clause_b40 n d hc _ _ _ hf) (And.intro rfl (And.intro rfl (trivial)))
  · refine j_aload_n hc dX12_clause_27 rfl ?_
    refine j_callVI (t := 0) (As := []) hc dX12_clause_28 kw_1636 mX12_look kM_0 clX12 rfl (by omega) (Nat.le_of_ble_eq_true rfl) (Nat.le_of_ble_eq_true rfl) ⟨Nat.le_refl _, Nat.le_refl _⟩ hf (fun v I' L' h => qX12_look x.2.1 n d I L v I' L' h) (fun v3 I3 L3 hf => ?_)
    refine j_bipush (v := (121 : Int32)) hc dX12_clause_31 cb_121 ?_
    refine j_icmp_eq (tgt := 40) hc dX12_clause_33 rfl hf (fun hf => ?_) (fun hf => ?_)
    · exact j_sub (tX12_clause_b40 n d hc _ _ _ hf) (And.intro rfl (And.intro rfl (trivial)))
    · refine j_aload_n hc dX12_clause_36 rfl ?_
      refine j_callVV (t := 0) (As := []) hc dX12_clause_37 kw_1667 mX12_bad kM_0 clX12 rfl (by omega) (Nat.le_of_ble_eq_true rfl) (Nat.le_of_ble_eq_true rfl) ⟨Nat.le_refl _, Nat.le_refl _⟩ hf (fun I' L' h => qX12_bad x.2.1 n d I3 L3 I' L' h) (fun I4 L4 hf => ?_)
      exact j_sub (tX12_clause_b40 n d hc _ _ _ hf) (And.intro rfl (And.intro rfl (trivial)))

set_option maxRecDepth 100000 in
theorem qX12_clause (l : Launch) (n d : Nat) (I : am_I) (L : am_L) (I' : am_I) (L' : am_L) (hf : fX12_clause n d I L = some (I', L')) : am_C l yX12_clause cX12_clause 3 none (d + 7) [.ref 0] KM RM I L none I' L' := by
  exact am_intro (plainFor_of_name plX12) (fun _ _ => trivial) (Nat.le_of_ble_eq_true rfl) (fun x hl hc => by subst hl; exact j_sub (tX12_clause n d hc  _ _ hf) (And.intro rfl (trivial)))
set_option maxRecDepth 100000 in
def fX12_atEnd_b20 (n d : Nat) (I : am_I) (L : am_L) : Option (Int32 × am_I × am_L) :=
  some ((I 0 4), I, L)

set_option maxRecDepth 100000 in
set_option maxHeartbeats 4000000 in
theorem tX12_atEnd_b20 {x : am_X} (n d : Nat) (hc : am_ok x cX12_atEnd yX12_atEnd 1 (some .int) (d + 3) 0 0) {r : Int32} {I' : am_I} {L' : am_L} (I : am_I) (L : am_L) (hf : fX12_atEnd_b20 n d I L = some (r, I', L')) : am_J x (fun S => S = (some (.int r), KM, RM, I', L')) 20 [some (.ref 0)] [] KM RM I L 0 0 := by
  unfold fX12_atEnd_b20 at hf
  refine j_aload_n hc dX12_atEnd_20 rfl ?_
  refine j_getI hc dX12_atEnd_21 fgM_X12_108_0 ?_
  exact j_ireturn hc dX12_atEnd_24 rfl rfl hf

set_option maxRecDepth 100000 in
def fX12_atEnd (n d : Nat) (I : am_I) (L : am_L) : Option (Int32 × am_I × am_L) :=
  if (I 0 4) = (-1 : Int32) then
    (am_b3 (fX12_look n d I L) (fun v1 I1 L1 => if v1 = (-1 : Int32) then
      (fX12_atEnd_b20 n d I1 L1)
      else
      (am_b2 (fX12_bad n d I1 L1) (fun I2 L2 => fX12_atEnd_b20 n d I2 L2))))
    else
    (fX12_atEnd_b20 n d I L)

set_option maxRecDepth 100000 in
set_option maxHeartbeats 4000000 in
theorem tX12_atEnd {x : am_X} (n d : Nat) (hc : am_ok x cX12_atEnd yX12_atEnd 1 (some .int) (d + 3) 0 0) {r : Int32} {I' : am_I} {L' : am_L} (I : am_I) (L : am_L) (hf : fX12_atEnd n d I L = some (r, I', L')) : am_J x (fun S => S = (some (.int r), KM, RM, I', L')) 0 [some (.ref 0)] [] KM RM I L 0 0 := by
  unfold fX12_atEnd at hf
  refine j_aload_n hc dX12_atEnd_0 rfl ?_
  refine j_getI hc dX12_atEnd_1 fgM_X12_108_0 ?_
  refine j_iconst (v := (-1 : Int32)) hc dX12_atEnd_4 ci_m1 ?_
  refine j_icmp_ne (tgt := 20) hc dX12_atEnd_5 rfl hf (fun hf => ?_) (fun hf => ?_)
  · exact j_sub (tX12_atEnd_b20 n d hc _ _ hf) (And.intro rfl (trivial))
  · refine j_aload_n hc dX12_atEnd_8 rfl ?_
    refine j_callVI (t := 0) (As := []) hc dX12_atEnd_9 kw_1636 mX12_look kM_0 clX12 rfl (by omega) (Nat.le_of_ble_eq_true rfl) (Nat.le_of_ble_eq_true rfl) ⟨Nat.le_refl _, Nat.le_refl _⟩ hf (fun v I' L' h => qX12_look x.2.1 n d I L v I' L' h) (fun v1 I1 L1 hf => ?_)
    refine j_iconst (v := (-1 : Int32)) hc dX12_atEnd_12 ci_m1 ?_
    refine j_icmp_eq (tgt := 20) hc dX12_atEnd_13 rfl hf (fun hf => ?_) (fun hf => ?_)
    · exact j_sub (tX12_atEnd_b20 n d hc _ _ hf) (And.intro rfl (trivial))
    · refine j_aload_n hc dX12_atEnd_16 rfl ?_
      refine j_callVV (t := 0) (As := []) hc dX12_atEnd_17 kw_1667 mX12_bad kM_0 clX12 rfl (by omega) (Nat.le_of_ble_eq_true rfl) (Nat.le_of_ble_eq_true rfl) ⟨Nat.le_refl _, Nat.le_refl _⟩ hf (fun I' L' h => qX12_bad x.2.1 n d I1 L1 I' L' h) (fun I2 L2 hf => ?_)
      exact j_sub (tX12_atEnd_b20 n d hc _ _ hf) (And.intro rfl (trivial))

set_option maxRecDepth 100000 in
theorem qX12_atEnd (l : Launch) (n d : Nat) (I : am_I) (L : am_L) (r : Int32) (I' : am_I) (L' : am_L) (hf : fX12_atEnd n d I L = some (r, I', L')) : am_C l yX12_atEnd cX12_atEnd 1 (some .int) (d + 3) [.ref 0] KM RM I L (some (.int r)) I' L' := by
  exact am_intro (plainFor_of_name plX12) (fun _ _ => trivial) (Nat.le_of_ble_eq_true rfl) (fun x hl hc => by subst hl; exact j_sub (tX12_atEnd n d hc  _ _ hf) (And.intro rfl (trivial)))
set_option maxRecDepth 100000 in
def fX12_readLaw_b43 (n d : Nat) (I : am_I) (L : am_L) : Option (Int32 × am_I × am_L) :=
  am_b3 (fX12_atEnd n d I L) (fun v1 I1 L1 => some (v1, I1, L1))

set_option maxRecDepth 100000 in
set_option maxHeartbeats 4000000 in
theorem tX12_readLaw_b43 {x : am_X} (n d : Nat) (hc : am_ok x cX12_readLaw yX12_readLaw 2 (some .int) (d + 8) 0 0) {r : Int32} {I' : am_I} {L' : am_L} (I : am_I) (L : am_L) (hf : fX12_readLaw_b43 n d I L = some (r, I', L')) : am_J x (fun S => S = (some (.int r), KM, RM, I', L')) 43 [some (.ref 0), none] [] KM RM I L 0 0 := by
  unfold fX12_readLaw_b43 at hf
  refine j_aload_n hc dX12_readLaw_43 rfl ?_
  refine j_callVI (t := 0) (As := []) hc dX12_readLaw_44 kw_1744 mX12_atEnd kM_0 clX12 rfl (by omega) (Nat.le_of_ble_eq_true rfl) (Nat.le_of_ble_eq_true rfl) ⟨Nat.le_refl _, Nat.le_refl _⟩ hf (fun v I' L' h => qX12_atEnd x.2.1 n d I L v I' L' h) (fun v1 I1 L1 hf => ?_)
  exact j_ireturn hc dX12_readLaw_47 rfl rfl hf

set_option maxRecDepth 100000 in
def fX12_readLaw_b9w (n d : Nat) (k9 : am_I → am_L → Option (Int32 × am_I × am_L)) (I : am_I) (L : am_L) : Option (Int32 × am_I × am_L) :=
  if (I 0 4) = (-1 : Int32) then
    (am_b3 (fX12_look n d I L) (fun v1 I1 L1 => if v1 = (59 : Int32) then
      (am_lt (am_up I1 0 3 ((I1 0 3) + (1 : Int32))) (fun I2 => am_b2 (fX12_clause n d I2 L1) (fun I3 L3 => k9 I3 L3)))
      else
      (fX12_readLaw_b43 n d I1 L1)))
    else
    (fX12_readLaw_b43 n d I L)

set_option maxRecDepth 100000 in
set_option maxHeartbeats 4000000 in
theorem tX12_readLaw_b9w {x : am_X} (n d : Nat) (hc : am_ok x cX12_readLaw yX12_readLaw 2 (some .int) (d + 8) 0 0) {r : Int32} {I' : am_I} {L' : am_L} (k9 : am_I → am_L → Option (Int32 × am_I × am_L)) (hk9 : ∀ (I : am_I) (L : am_L), k9 I L = some (r, I', L') → am_J x (fun S => S = (some (.int r), KM, RM, I', L')) 9 [some (.ref 0), none] [] KM RM I L 0 0) (I : am_I) (L : am_L) (hf : fX12_readLaw_b9w n d k9 I L = some (r, I', L')) : am_J x (fun S => S = (some (.int r), KM, RM, I', L')) 9 [some (.ref 0), none] [] KM RM I L 0 0 := by
  unfold fX12_readLaw_b9w at hf
  refine j_aload_n hc dX12_readLaw_9 rfl ?_
  refine j_getI hc dX12_readLaw_10 fgM_X12_108_0 ?_
  refine j_iconst (v := (-1 : Int32)) hc dX12_readLaw_13 ci_m1 ?_
  refine j_icmp_ne (tgt := 43) hc dX12_readLaw_14 rfl hf (fun hf => ?_) (fun hf => ?_)
  · exact j_sub (tX12_readLaw_b43 n d hc _ _ hf) (And.intro rfl (trivial))
  · refine j_aload_n hc dX12_readLaw_17 rfl ?_
    refine j_callVI (t := 0) (As := []) hc dX12_readLaw_18 kw_1636 mX12_look kM_0 clX12 rfl (by omega) (Nat.le_of_ble_eq_true rfl) (Nat.le_of_ble_eq_true rfl) ⟨Nat.le_refl _, Nat.le_refl _⟩ hf (fun v I' L' h => qX12_look x.2.1 n d I L v I' L' h) (fun v1 I1 L1 hf => ?_)
    refine j_bipush (v := (59 : Int32)) hc dX12_readLaw_21 cb_59 ?_
    refine j_icmp_ne (tgt := 43) hc dX12_readLaw_23 rfl hf (fun hf => ?_) (fun hf => ?_)
    · exact j_sub (tX12_readLaw_b43 n d hc _ _ hf) (And.intro rfl (trivial))
    · refine j_aload_n hc dX12_readLaw_26 rfl ?_
      refine j_dup hc dX12_readLaw_27 rfl ?_
      refine j_getI hc dX12_readLaw_28 fgM_X12_101_0 ?_
      refine j_iconst (v := (1 : Int32)) hc dX12_readLaw_31 ci_1 ?_
      refine j_iadd hc dX12_readLaw_32 ?_
      refine j_putI hc dX12_readLaw_33 fpM_X12_101_0 rfl rfl hf (fun I2 hf => ?_)
      refine j_aload_n hc dX12_readLaw_36 rfl ?_
      refine j_callVV (t := 0) (As := []) hc dX12_readLaw_37 kw_1686 mX12_clause kM_0 clX12 rfl (by omega) (Nat.le_of_ble_eq_true rfl) (Nat.le_of_ble_eq_true rfl) ⟨Nat.le_refl _, Nat.le_refl _⟩ hf (fun I' L' h => qX12_clause x.2.1 n d I2 L1 I' L' h) (fun I3 L3 hf => ?_)
      refine j_goto (tgt := 9) hc dX12_readLaw_40 rfl ?_
      exact j_sub (hk9 _ _ hf) (And.intro rfl (trivial))

def fX12_readLaw_b9 (n d : Nat) : Nat → am_I → am_L → Option (Int32 × am_I × am_L)
  | 0 => fun _ _ => none
  | m + 1 => fX12_readLaw_b9w n d  (fX12_readLaw_b9 n d m)

set_option maxRecDepth 100000 in
theorem tX12_readLaw_b9 {x : am_X} (n d : Nat) (hc : am_ok x cX12_readLaw yX12_readLaw 2 (some .int) (d + 8) 0 0) {r : Int32} {I' : am_I} {L' : am_L} (m : Nat) : ∀ (I : am_I) (L : am_L) (hf : fX12_readLaw_b9 n d m I L = some (r, I', L')), am_J x (fun S => S = (some (.int r), KM, RM, I', L')) 9 [some (.ref 0), none] [] KM RM I L 0 0 := by
  induction m with
  | zero => intro I L hf; exact (Option.some_ne_none _ hf.symm).elim
  | succ m ih => intro I L hf; exact tX12_readLaw_b9w n d hc (fX12_readLaw_b9 n d m) ih I L hf

set_option maxRecDepth 100000 in
def fX12_readLaw (n d : Nat) (a1 : Int32) (I : am_I) (L : am_L) : Option (Int32 × am_I × am_L) :=
  am_b2 (fX12_open n d a1 I L) (fun I1 L1 => am_b2 (fX12_clause n d I1 L1) (fun I2 L2 => fX12_readLaw_b9 n d n I2 L2))

set_option maxRecDepth 100000 in
set_option maxHeartbeats 4000000 in
theorem tX12_readLaw {x : am_X} (n d : Nat) (hc : am_ok x cX12_readLaw yX12_readLaw 2 (some .int) (d + 8) 0 0) {r : Int32} {I' : am_I} {L' : am_L} (a1 : Int32) (I : am_I) (L : am_L) (hf : fX12_readLaw n d a1 I L = some (r, I', L')) : am_J x (fun S => S = (some (.int r), KM, RM, I', L')) 0 [some (.ref 0), some (.int a1)] [] KM RM I L 0 0 := by
  unfold fX12_readLaw at hf
  refine j_aload_n hc dX12_readLaw_0 rfl ?_
  refine j_iload_n hc dX12_readLaw_1 rfl ?_
  refine j_callVV (t := 0) (As := [.int a1]) hc dX12_readLaw_2 kw_1682 mX12_open kM_0 clX12 rfl (by omega) (Nat.le_of_ble_eq_true rfl) (Nat.le_of_ble_eq_true rfl) ⟨Nat.le_refl _, Nat.le_refl _⟩ hf (fun I' L' h => qX12_open x.2.1 n d a1 I L I' L' h) (fun I1 L1 hf => ?_)
  refine j_aload_n hc dX12_readLaw_5 rfl ?_
  refine j_callVV (t := 0) (As := []) hc dX12_readLaw_6 kw_1686 mX12_clause kM_0 clX12 rfl (by omega) (Nat.le_of_ble_eq_true rfl) (Nat.le_of_ble_eq_true rfl) ⟨Nat.le_refl _, Nat.le_refl _⟩ hf (fun I' L' h => qX12_clause x.2.1 n d I1 L1 I' L' h) (fun I2 L2 hf => ?_)
  exact j_sub (tX12_readLaw_b9 n d hc n _ _ hf) (And.intro rfl (trivial))

set_option maxRecDepth 100000 in
theorem qX12_readLaw (l : Launch) (n d : Nat) (a1 : Int32) (I : am_I) (L : am_L) (r : Int32) (I' : am_I) (L' : am_L) (hf : fX12_readLaw n d a1 I L = some (r, I', L')) : am_C l yX12_readLaw cX12_readLaw 2 (some .int) (d + 8) [.ref 0, .int a1] KM RM I L (some (.int r)) I' L' := by
  exact am_intro (plainFor_of_name plX12) (fun _ _ => trivial) (Nat.le_of_ble_eq_true rfl) (fun x hl hc => by subst hl; exact j_sub (tX12_readLaw n d hc _ _ _ hf) (And.intro rfl (And.intro rfl (trivial))))
set_option maxRecDepth 100000 in
def fX12_fault (n d : Nat) (a1 : Int32) (I : am_I) (L : am_L) : Option (Int32 × am_I × am_L) :=
  if a1 = 0 then
    (am_b3 (fX12_readWar n d I L) (fun v2 I2 L2 => some (v2, I2, L2)))
    else
    (if a1 = (1 : Int32) then
      (am_b3 (fX12_readLaw n d (4 : Int32) I L) (fun v1 I1 L1 => some (v1, I1, L1)))
      else
      (some ((-2 : Int32), I, L)))

set_option maxRecDepth 100000 in
set_option maxHeartbeats 4000000 in
theorem tX12_fault {x : am_X} (n d : Nat) (hc : am_ok x cX12_fault yX12_fault 2 (some .int) (d + 9) 0 0) {r : Int32} {I' : am_I} {L' : am_L} (a1 : Int32) (I : am_I) (L : am_L) (hf : fX12_fault n d a1 I L = some (r, I', L')) : am_J x (fun S => S = (some (.int r), KM, RM, I', L')) 0 [some (.ref 0), some (.int a1)] [] KM RM I L 0 0 := by
  unfold fX12_fault at hf
  refine j_iload_n hc dX12_fault_0 rfl ?_
  refine j_if_ne (tgt := 11) hc dX12_fault_1 rfl hf (fun hf => ?_) (fun hf => ?_)
  · refine j_iload_n hc dX12_fault_11 rfl ?_
    refine j_iconst (v := (1 : Int32)) hc dX12_fault_12 ci_1 ?_
    refine j_icmp_ne (tgt := 24) hc dX12_fault_13 rfl hf (fun hf => ?_) (fun hf => ?_)
    · refine j_bipush (v := (-2 : Int32)) hc dX12_fault_24 cb_m2 ?_
      exact j_ireturn hc dX12_fault_26 rfl rfl hf
    · refine j_aload_n hc dX12_fault_16 rfl ?_
      refine j_iconst (v := (4 : Int32)) hc dX12_fault_17 ci_4 ?_
      refine j_callVI (t := 0) (As := [.int (4 : Int32)]) hc dX12_fault_18 kw_1678 mX12_readLaw kM_0 clX12 rfl (by omega) (Nat.le_of_ble_eq_true rfl) (Nat.le_of_ble_eq_true rfl) ⟨Nat.le_refl _, Nat.le_refl _⟩ hf (fun v I' L' h => qX12_readLaw x.2.1 n d (4 : Int32) I L v I' L' h) (fun v1 I1 L1 hf => ?_)
      refine j_goto (tgt := 26) hc dX12_fault_21 rfl ?_
      exact j_ireturn hc dX12_fault_26 rfl rfl hf
  · refine j_aload_n hc dX12_fault_4 rfl ?_
    refine j_callVI (t := 0) (As := []) hc dX12_fault_5 kw_1629 mX12_readWar kM_0 clX12 rfl (by omega) (Nat.le_of_ble_eq_true rfl) (Nat.le_of_ble_eq_true rfl) ⟨Nat.le_refl _, Nat.le_refl _⟩ hf (fun v I' L' h => qX12_readWar x.2.1 n d I L v I' L' h) (fun v2 I2 L2 hf => ?_)
    refine j_goto (tgt := 26) hc dX12_fault_8 rfl ?_
    exact j_ireturn hc dX12_fault_26 rfl rfl hf

set_option maxRecDepth 100000 in
theorem qX12_fault (l : Launch) (n d : Nat) (a1 : Int32) (I : am_I) (L : am_L) (r : Int32) (I' : am_I) (L' : am_L) (hf : fX12_fault n d a1 I L = some (r, I', L')) : am_C l yX12_fault cX12_fault 2 (some .int) (d + 9) [.ref 0, .int a1] KM RM I L (some (.int r)) I' L' := by
  exact am_intro (plainFor_of_name plX12) (fun _ _ => trivial) (Nat.le_of_ble_eq_true rfl) (fun x hl hc => by subst hl; exact j_sub (tX12_fault n d hc _ _ _ hf) (And.intro rfl (And.intro rfl (trivial))))
set_option maxRecDepth 100000 in
def fX12_restAt_b2w (n d : Nat) (k2 : Int32 → Int32 → am_I → am_L → Option (Int32 × am_I × am_L)) (a1 : Int32) (a2 : Int32) (I : am_I) (L : am_L) : Option (Int32 × am_I × am_L) :=
  if (I 0 26) ≤ a2 then
    (some ((0 : Int32), I, L))
    else
    (am_ck ((2 : Int32) * a2) 12 (am_lt (I 15 (((2 : Int32) * a2)).toNatClampNeg) (fun v1 => if v1 = a1 then
      (am_ck (((2 : Int32) * a2) + (1 : Int32)) 12 (am_lt (I 15 ((((2 : Int32) * a2) + (1 : Int32))).toNatClampNeg) (fun v3 => some (v3, I, L))))
      else
      (am_lt (a2 + (1 : Int32)) (fun v2 => k2 a1 v2 I L)))))

set_option maxRecDepth 100000 in
set_option maxHeartbeats 4000000 in
theorem tX12_restAt_b2w {x : am_X} (n d : Nat) (hc : am_ok x cX12_restAt yX12_restAt 3 (some .int) (d + 1) 0 0) {r : Int32} {I' : am_I} {L' : am_L} (k2 : Int32 → Int32 → am_I → am_L → Option (Int32 × am_I × am_L)) (hk2 : ∀ (a1 : Int32) (a2 : Int32) (I : am_I) (L : am_L), k2 a1 a2 I L = some (r, I', L') → am_J x (fun S => S = (some (.int r), KM, RM, I', L')) 2 [some (.ref 0), some (.int a1), some (.int a2)] [] KM RM I L 0 0) (a1 : Int32) (a2 : Int32) (I : am_I) (L : am_L) (hf : fX12_restAt_b2w n d k2 a1 a2 I L = some (r, I', L')) : am_J x (fun S => S = (some (.int r), KM, RM, I', L')) 2 [some (.ref 0), some (.int a1), some (.int a2)] [] KM RM I L 0 0 := by
  unfold fX12_restAt_b2w at hf
  refine j_iload_n hc dX12_restAt_2 rfl ?_
  refine j_aload_n hc dX12_restAt_3 rfl ?_
  refine j_getI hc dX12_restAt_4 fgM_X12_253_0 ?_
  refine j_icmp_ge (tgt := 39) hc dX12_restAt_7 rfl hf (fun hf => ?_) (fun hf => ?_)
  · refine j_iconst (v := (0 : Int32)) hc dX12_restAt_39 ci_0 ?_
    exact j_ireturn hc dX12_restAt_40 rfl rfl hf
  · refine j_aload_n hc dX12_restAt_10 rfl ?_
    refine j_getR (u := 15) hc dX12_restAt_11 fgM_X12_52_0 rM_0_23 ?_
    refine j_iconst (v := (2 : Int32)) hc dX12_restAt_14 ci_2 ?_
    refine j_iload_n hc dX12_restAt_15 rfl ?_
    refine j_imul hc dX12_restAt_16 ?_
    refine j_iaload (n := 12) hc dX12_restAt_17 kM_15 hf (fun v1 hf => ?_)
    refine j_iload_n hc dX12_restAt_18 rfl ?_
    refine j_icmp_ne (tgt := 33) hc dX12_restAt_19 rfl hf (fun hf => ?_) (fun hf => ?_)
    · refine j_iinc (w := (1 : Int32)) hc dX12_restAt_33 rfl ci_1 (Nat.le_of_ble_eq_true rfl) hf (fun v2 hf => ?_)
      refine j_goto (tgt := 2) hc dX12_restAt_36 rfl ?_
      exact j_sub (hk2 _ _ _ _ hf) (And.intro rfl (And.intro rfl (And.intro rfl (trivial))))
    · refine j_aload_n hc dX12_restAt_22 rfl ?_
      refine j_getR (u := 15) hc dX12_restAt_23 fgM_X12_52_0 rM_0_23 ?_
      refine j_iconst (v := (2 : Int32)) hc dX12_restAt_26 ci_2 ?_
      refine j_iload_n hc dX12_restAt_27 rfl ?_
      refine j_imul hc dX12_restAt_28 ?_
      refine j_iconst (v := (1 : Int32)) hc dX12_restAt_29 ci_1 ?_
      refine j_iadd hc dX12_restAt_30 ?_
      refine j_iaload (n := 12) hc dX12_restAt_31 kM_15 hf (fun v3 hf => ?_)
      exact j_ireturn hc dX12_restAt_32 rfl rfl hf

def fX12_restAt_b2 (n d : Nat) : Nat → Int32 → Int32 → am_I → am_L → Option (Int32 × am_I × am_L)
  | 0 => fun _ _ _ _ => none
  | m + 1 => fX12_restAt_b2w n d  (fX12_restAt_b2 n d m)

set_option maxRecDepth 100000 in
theorem tX12_restAt_b2 {x : am_X} (n d : Nat) (hc : am_ok x cX12_restAt yX12_restAt 3 (some .int) (d + 1) 0 0) {r : Int32} {I' : am_I} {L' : am_L} (m : Nat) : ∀ (a1 : Int32) (a2 : Int32) (I : am_I) (L : am_L) (hf : fX12_restAt_b2 n d m a1 a2 I L = some (r, I', L')), am_J x (fun S => S = (some (.int r), KM, RM, I', L')) 2 [some (.ref 0), some (.int a1), some (.int a2)] [] KM RM I L 0 0 := by
  induction m with
  | zero => intro a1 a2 I L hf; exact (Option.some_ne_none _ hf.symm).elim
  | succ m ih => intro a1 a2 I L hf; exact tX12_restAt_b2w n d hc (fX12_restAt_b2 n d m) ih a1 a2 I L hf

set_option maxRecDepth 100000 in
def fX12_restAt (n d : Nat) (a1 : Int32) (I : am_I) (L : am_L) : Option (Int32 × am_I × am_L) :=
  am_lt (0 : Int32) (fun v1 => fX12_restAt_b2 n d n a1 v1 I L)

set_option maxRecDepth 100000 in
set_option maxHeartbeats 4000000 in
theorem tX12_restAt {x : am_X} (n d : Nat) (hc : am_ok x cX12_restAt yX12_restAt 3 (some .int) (d + 1) 0 0) {r : Int32} {I' : am_I} {L' : am_L} (a1 : Int32) (I : am_I) (L : am_L) (hf : fX12_restAt n d a1 I L = some (r, I', L')) : am_J x (fun S => S = (some (.int r), KM, RM, I', L')) 0 [some (.ref 0), some (.int a1), none] [] KM RM I L 0 0 := by
  unfold fX12_restAt at hf
  refine j_iconst (v := (0 : Int32)) hc dX12_restAt_0 ci_0 ?_
  refine j_istore_n hc dX12_restAt_1 (Nat.le_of_ble_eq_true rfl) hf (fun v1 hf => ?_)
  exact j_sub (tX12_restAt_b2 n d hc n _ _ _ _ hf) (And.intro rfl (And.intro rfl (And.intro rfl (trivial))))

set_option maxRecDepth 100000 in
theorem qX12_restAt (l : Launch) (n d : Nat) (a1 : Int32) (I : am_I) (L : am_L) (r : Int32) (I' : am_I) (L' : am_L) (hf : fX12_restAt n d a1 I L = some (r, I', L')) : am_C l yX12_restAt cX12_restAt 3 (some .int) (d + 1) [.ref 0, .int a1] KM RM I L (some (.int r)) I' L' := by
  exact am_intro (plainFor_of_name plX12) (fun _ _ => trivial) (Nat.le_of_ble_eq_true rfl) (fun x hl hc => by subst hl; exact j_sub (tX12_restAt n d hc _ _ _ hf) (And.intro rfl (And.intro rfl (trivial))))
set_option maxRecDepth 100000 in
def fX12_comes (n d : Nat) (a1 : Int32) (a2 : Int32) (I : am_I) (L : am_L) : Option (am_I × am_L) :=
  am_ck ((0 : Int32) + a1) 206 (am_lt (am_up I 17 (((0 : Int32) + a1)).toNatClampNeg a2) (fun I1 => am_b3 (fX12_restAt n d a2 I1 L) (fun v2 I2 L2 => am_ck ((8 : Int32) + a1) 206 (am_lt (am_up I2 17 (((8 : Int32) + a1)).toNatClampNeg v2) (fun I3 => some (I3, L2))))))

set_option maxRecDepth 100000 in
set_option maxHeartbeats 4000000 in
theorem tX12_comes {x : am_X} (n d : Nat) (hc : am_ok x cX12_comes yX12_comes 3 none (d + 2) 0 0) {I' : am_I} {L' : am_L} (a1 : Int32) (a2 : Int32) (I : am_I) (L : am_L) (hf : fX12_comes n d a1 a2 I L = some (I', L')) : am_J x (fun S => S = (none, KM, RM, I', L')) 0 [some (.ref 0), some (.int a1), some (.int a2)] [] KM RM I L 0 0 := by
  unfold fX12_comes at hf
  refine j_aload_n hc dX12_comes_0 rfl ?_
  refine j_getR (u := 17) hc dX12_comes_1 fgM_X12_58_0 rM_0_27 ?_
  refine j_iconst (v := (0 : Int32)) hc dX12_comes_4 ci_0 ?_
  refine j_iload_n hc dX12_comes_5 rfl ?_
  refine j_iadd hc dX12_comes_6 ?_
  refine j_iload_n hc dX12_comes_7 rfl ?_
  refine j_iastore (n := 206) hc dX12_comes_8 kM_17 hf (fun I1 hf => ?_)
  refine j_aload_n hc dX12_comes_9 rfl ?_
  refine j_getR (u := 17) hc dX12_comes_10 fgM_X12_58_0 rM_0_27 ?_
  refine j_bipush (v := (8 : Int32)) hc dX12_comes_13 cb_8 ?_
  refine j_iload_n hc dX12_comes_15 rfl ?_
  refine j_iadd hc dX12_comes_16 ?_
  refine j_aload_n hc dX12_comes_17 rfl ?_
  refine j_iload_n hc dX12_comes_18 rfl ?_
  refine j_callVI (t := 0) (As := [.int a2]) hc dX12_comes_19 kw_1760 mX12_restAt kM_0 clX12 rfl (by omega) (Nat.le_of_ble_eq_true rfl) (Nat.le_of_ble_eq_true rfl) ⟨Nat.le_refl _, Nat.le_refl _⟩ hf (fun v I' L' h => qX12_restAt x.2.1 n d a2 I1 L v I' L' h) (fun v2 I2 L2 hf => ?_)
  refine j_iastore (n := 206) hc dX12_comes_22 kM_17 hf (fun I3 hf => ?_)
  exact j_return hc dX12_comes_23 rfl rfl hf

set_option maxRecDepth 100000 in
theorem qX12_comes (l : Launch) (n d : Nat) (a1 : Int32) (a2 : Int32) (I : am_I) (L : am_L) (I' : am_I) (L' : am_L) (hf : fX12_comes n d a1 a2 I L = some (I', L')) : am_C l yX12_comes cX12_comes 3 none (d + 2) [.ref 0, .int a1, .int a2] KM RM I L none I' L' := by
  exact am_intro (plainFor_of_name plX12) (fun _ _ => trivial) (Nat.le_of_ble_eq_true rfl) (fun x hl hc => by subst hl; exact j_sub (tX12_comes n d hc _ _ _ _ hf) (And.intro rfl (And.intro rfl (And.intro rfl (trivial)))))
set_option maxRecDepth 100000 in
def fX12_takeWar_b116w (n d : Nat) (k116 : Int32 → am_I → am_L → Option (Int32 × am_I × am_L)) (a1 : Int32) (I : am_I) (L : am_L) : Option (Int32 × am_I × am_L) :=
  if (I 0 25) ≤ a1 then
    (am_lt (am_up I 0 39 (0 : Int32)) (fun I1 => am_lt (am_up I1 0 30 (0 : Int32)) (fun I2 => am_bl (0 : Int32) (am_lt (am_up I2 0 43 (0 : Int32)) (fun I3 => some ((I3 0 25), I3, L))))))
    else
    (am_ck (((6 : Int32) * a1) + (1 : Int32)) 48 (am_lt (I 14 ((((6 : Int32) * a1) + (1 : Int32))).toNatClampNeg) (fun v4 => am_b2 (fX12_comes n d a1 v4 I L) (fun I5 L5 => am_lt (a1 + (1 : Int32)) (fun v6 => k116 v6 I5 L5)))))

set_option maxRecDepth 100000 in
set_option maxHeartbeats 4000000 in
theorem tX12_takeWar_b116w {x : am_X} (n d : Nat) (hc : am_ok x cX12_takeWar yX12_takeWar 2 (some .int) (d + 3) 0 0) {r : Int32} {I' : am_I} {L' : am_L} (k116 : Int32 → am_I → am_L → Option (Int32 × am_I × am_L)) (hk116 : ∀ (a1 : Int32) (I : am_I) (L : am_L), k116 a1 I L = some (r, I', L') → am_J x (fun S => S = (some (.int r), KM, RM, I', L')) 116 [some (.ref 0), some (.int a1)] [] KM RM I L 0 0) (a1 : Int32) (I : am_I) (L : am_L) (hf : fX12_takeWar_b116w n d k116 a1 I L = some (r, I', L')) : am_J x (fun S => S = (some (.int r), KM, RM, I', L')) 116 [some (.ref 0), some (.int a1)] [] KM RM I L 0 0 := by
  unfold fX12_takeWar_b116w at hf
  refine j_iload_n hc dX12_takeWar_116 rfl ?_
  refine j_aload_n hc dX12_takeWar_117 rfl ?_
  refine j_getI hc dX12_takeWar_118 fgM_X12_250_0 ?_
  refine j_icmp_ge (tgt := 146) hc dX12_takeWar_121 rfl hf (fun hf => ?_) (fun hf => ?_)
  · refine j_aload_n hc dX12_takeWar_146 rfl ?_
    refine j_iconst (v := (0 : Int32)) hc dX12_takeWar_147 ci_0 ?_
    refine j_putI hc dX12_takeWar_148 fpM_X12_259_0 rfl rfl hf (fun I1 hf => ?_)
    refine j_aload_n hc dX12_takeWar_151 rfl ?_
    refine j_iconst (v := (0 : Int32)) hc dX12_takeWar_152 ci_0 ?_
    refine j_putI hc dX12_takeWar_153 fpM_X12_262_0 rfl rfl hf (fun I2 hf => ?_)
    refine j_aload_n hc dX12_takeWar_156 rfl ?_
    refine j_iconst (v := (0 : Int32)) hc dX12_takeWar_157 ci_0 ?_
    refine j_putZ hc dX12_takeWar_158 fpM_X12_265_0 rfl hf (fun I3 hf => ?_)
    refine j_aload_n hc dX12_takeWar_161 rfl ?_
    refine j_getI hc dX12_takeWar_162 fgM_X12_250_0 ?_
    exact j_ireturn hc dX12_takeWar_165 rfl rfl hf
  · refine j_aload_n hc dX12_takeWar_124 rfl ?_
    refine j_iload_n hc dX12_takeWar_125 rfl ?_
    refine j_aload_n hc dX12_takeWar_126 rfl ?_
    refine j_getR (u := 14) hc dX12_takeWar_127 fgM_X12_49_0 rM_0_22 ?_
    refine j_bipush (v := (6 : Int32)) hc dX12_takeWar_130 cb_6 ?_
    refine j_iload_n hc dX12_takeWar_132 rfl ?_
    refine j_imul hc dX12_takeWar_133 ?_
    refine j_iconst (v := (1 : Int32)) hc dX12_takeWar_134 ci_1 ?_
    refine j_iadd hc dX12_takeWar_135 ?_
    refine j_iaload (n := 48) hc dX12_takeWar_136 kM_14 hf (fun v4 hf => ?_)
    refine j_callVV (t := 0) (As := [.int a1, .int v4]) hc dX12_takeWar_137 kw_1756 mX12_comes kM_0 clX12 rfl (by omega) (Nat.le_of_ble_eq_true rfl) (Nat.le_of_ble_eq_true rfl) ⟨Nat.le_refl _, Nat.le_refl _⟩ hf (fun I' L' h => qX12_comes x.2.1 n d a1 v4 I L I' L' h) (fun I5 L5 hf => ?_)
    refine j_iinc (w := (1 : Int32)) hc dX12_takeWar_140 rfl ci_1 (Nat.le_of_ble_eq_true rfl) hf (fun v6 hf => ?_)
    refine j_goto (tgt := 116) hc dX12_takeWar_143 rfl ?_
    exact j_sub (hk116 _ _ _ hf) (And.intro rfl (And.intro rfl (trivial)))

def fX12_takeWar_b116 (n d : Nat) : Nat → Int32 → am_I → am_L → Option (Int32 × am_I × am_L)
  | 0 => fun _ _ _ => none
  | m + 1 => fX12_takeWar_b116w n d  (fX12_takeWar_b116 n d m)

set_option maxRecDepth 100000 in
theorem tX12_takeWar_b116 {x : am_X} (n d : Nat) (hc : am_ok x cX12_takeWar yX12_takeWar 2 (some .int) (d + 3) 0 0) {r : Int32} {I' : am_I} {L' : am_L} (m : Nat) : ∀ (a1 : Int32) (I : am_I) (L : am_L) (hf : fX12_takeWar_b116 n d m a1 I L = some (r, I', L')), am_J x (fun S => S = (some (.int r), KM, RM, I', L')) 116 [some (.ref 0), some (.int a1)] [] KM RM I L 0 0 := by
  induction m with
  | zero => intro a1 I L hf; exact (Option.some_ne_none _ hf.symm).elim
  | succ m ih => intro a1 I L hf; exact tX12_takeWar_b116w n d hc (fX12_takeWar_b116 n d m) ih a1 I L hf

set_option maxRecDepth 100000 in
def fX12_takeWar_b94w (n d : Nat) (k94 : Int32 → am_I → am_L → Option (Int32 × am_I × am_L)) (a1 : Int32) (I : am_I) (L : am_L) : Option (Int32 × am_I × am_L) :=
  if (206 : Int32) ≤ a1 then
    (am_lt (0 : Int32) (fun v1 => fX12_takeWar_b116 n d n v1 I L))
    else
    (am_ck a1 206 (am_lt (am_up I 17 (a1).toNatClampNeg (0 : Int32)) (fun I2 => am_lt (a1 + (1 : Int32)) (fun v3 => k94 v3 I2 L))))

set_option maxRecDepth 100000 in
set_option maxHeartbeats 4000000 in
theorem tX12_takeWar_b94w {x : am_X} (n d : Nat) (hc : am_ok x cX12_takeWar yX12_takeWar 2 (some .int) (d + 3) 0 0) {r : Int32} {I' : am_I} {L' : am_L} (k94 : Int32 → am_I → am_L → Option (Int32 × am_I × am_L)) (hk94 : ∀ (a1 : Int32) (I : am_I) (L : am_L), k94 a1 I L = some (r, I', L') → am_J x (fun S => S = (some (.int r), KM, RM, I', L')) 94 [some (.ref 0), some (.int a1)] [] KM RM I L 0 0) (a1 : Int32) (I : am_I) (L : am_L) (hf : fX12_takeWar_b94w n d k94 a1 I L = some (r, I', L')) : am_J x (fun S => S = (some (.int r), KM, RM, I', L')) 94 [some (.ref 0), some (.int a1)] [] KM RM I L 0 0 := by
  unfold fX12_takeWar_b94w at hf
  refine j_iload_n hc dX12_takeWar_94 rfl ?_
  refine j_sipush (v := (206 : Int32)) hc dX12_takeWar_95 cs_206 ?_
  refine j_icmp_ge (tgt := 114) hc dX12_takeWar_98 rfl hf (fun hf => ?_) (fun hf => ?_)
  · refine j_iconst (v := (0 : Int32)) hc dX12_takeWar_114 ci_0 ?_
    refine j_istore_n hc dX12_takeWar_115 (Nat.le_of_ble_eq_true rfl) hf (fun v1 hf => ?_)
    exact j_sub (tX12_takeWar_b116 n d hc n _ _ _ hf) (And.intro rfl (And.intro rfl (trivial)))
  · refine j_aload_n hc dX12_takeWar_101 rfl ?_
    refine j_getR (u := 17) hc dX12_takeWar_102 fgM_X12_58_0 rM_0_27 ?_
    refine j_iload_n hc dX12_takeWar_105 rfl ?_
    refine j_iconst (v := (0 : Int32)) hc dX12_takeWar_106 ci_0 ?_
    refine j_iastore (n := 206) hc dX12_takeWar_107 kM_17 hf (fun I2 hf => ?_)
    refine j_iinc (w := (1 : Int32)) hc dX12_takeWar_108 rfl ci_1 (Nat.le_of_ble_eq_true rfl) hf (fun v3 hf => ?_)
    refine j_goto (tgt := 94) hc dX12_takeWar_111 rfl ?_
    exact j_sub (hk94 _ _ _ hf) (And.intro rfl (And.intro rfl (trivial)))

def fX12_takeWar_b94 (n d : Nat) : Nat → Int32 → am_I → am_L → Option (Int32 × am_I × am_L)
  | 0 => fun _ _ _ => none
  | m + 1 => fX12_takeWar_b94w n d  (fX12_takeWar_b94 n d m)

set_option maxRecDepth 100000 in
theorem tX12_takeWar_b94 {x : am_X} (n d : Nat) (hc : am_ok x cX12_takeWar yX12_takeWar 2 (some .int) (d + 3) 0 0) {r : Int32} {I' : am_I} {L' : am_L} (m : Nat) : ∀ (a1 : Int32) (I : am_I) (L : am_L) (hf : fX12_takeWar_b94 n d m a1 I L = some (r, I', L')), am_J x (fun S => S = (some (.int r), KM, RM, I', L')) 94 [some (.ref 0), some (.int a1)] [] KM RM I L 0 0 := by
  induction m with
  | zero => intro a1 I L hf; exact (Option.some_ne_none _ hf.symm).elim
  | succ m ih => intro a1 I L hf; exact tX12_takeWar_b94w n d hc (fX12_takeWar_b94 n d m) ih a1 I L hf

set_option maxRecDepth 100000 in
def fX12_takeWar_b44w (n d : Nat) (k44 : Int32 → am_I → am_L → Option (Int32 × am_I × am_L)) (a1 : Int32) (I : am_I) (L : am_L) : Option (Int32 × am_I × am_L) :=
  if (12 : Int32) ≤ a1 then
    (am_ck (0 : Int32) 2 (am_lt (I 13 ((0 : Int32)).toNatClampNeg) (fun v1 => am_ck (0 : Int32) 2 (am_lt (am_up I 16 ((0 : Int32)).toNatClampNeg v1) (fun I2 => am_ck (1 : Int32) 2 (am_lt (I2 13 ((1 : Int32)).toNatClampNeg) (fun v3 => am_ck (1 : Int32) 2 (am_lt (am_up I2 16 ((1 : Int32)).toNatClampNeg v3) (fun I4 => am_lt (0 : Int32) (fun v5 => fX12_takeWar_b94 n d n v5 I4 L))))))))))
    else
    (am_ck a1 12 (am_lt (I 12 (a1).toNatClampNeg) (fun v6 => am_ck a1 12 (am_lt (am_up I 15 (a1).toNatClampNeg v6) (fun I7 => am_lt (a1 + (1 : Int32)) (fun v8 => k44 v8 I7 L))))))

set_option maxRecDepth 100000 in
set_option maxHeartbeats 4000000 in
theorem tX12_takeWar_b44w {x : am_X} (n d : Nat) (hc : am_ok x cX12_takeWar yX12_takeWar 2 (some .int) (d + 3) 0 0) {r : Int32} {I' : am_I} {L' : am_L} (k44 : Int32 → am_I → am_L → Option (Int32 × am_I × am_L)) (hk44 : ∀ (a1 : Int32) (I : am_I) (L : am_L), k44 a1 I L = some (r, I', L') → am_J x (fun S => S = (some (.int r), KM, RM, I', L')) 44 [some (.ref 0), some (.int a1)] [] KM RM I L 0 0) (a1 : Int32) (I : am_I) (L : am_L) (hf : fX12_takeWar_b44w n d k44 a1 I L = some (r, I', L')) : am_J x (fun S => S = (some (.int r), KM, RM, I', L')) 44 [some (.ref 0), some (.int a1)] [] KM RM I L 0 0 := by
  unfold fX12_takeWar_b44w at hf
  refine j_iload_n hc dX12_takeWar_44 rfl ?_
  refine j_bipush (v := (12 : Int32)) hc dX12_takeWar_45 cb_12 ?_
  refine j_icmp_ge (tgt := 68) hc dX12_takeWar_47 rfl hf (fun hf => ?_) (fun hf => ?_)
  · refine j_aload_n hc dX12_takeWar_68 rfl ?_
    refine j_getR (u := 16) hc dX12_takeWar_69 fgM_X12_55_0 rM_0_24 ?_
    refine j_iconst (v := (0 : Int32)) hc dX12_takeWar_72 ci_0 ?_
    refine j_aload_n hc dX12_takeWar_73 rfl ?_
    refine j_getR (u := 13) hc dX12_takeWar_74 fgM_X12_46_0 rM_0_19 ?_
    refine j_iconst (v := (0 : Int32)) hc dX12_takeWar_77 ci_0 ?_
    refine j_iaload (n := 2) hc dX12_takeWar_78 kM_13 hf (fun v1 hf => ?_)
    refine j_iastore (n := 2) hc dX12_takeWar_79 kM_16 hf (fun I2 hf => ?_)
    refine j_aload_n hc dX12_takeWar_80 rfl ?_
    refine j_getR (u := 16) hc dX12_takeWar_81 fgM_X12_55_0 rM_0_24 ?_
    refine j_iconst (v := (1 : Int32)) hc dX12_takeWar_84 ci_1 ?_
    refine j_aload_n hc dX12_takeWar_85 rfl ?_
    refine j_getR (u := 13) hc dX12_takeWar_86 fgM_X12_46_0 rM_0_19 ?_
    refine j_iconst (v := (1 : Int32)) hc dX12_takeWar_89 ci_1 ?_
    refine j_iaload (n := 2) hc dX12_takeWar_90 kM_13 hf (fun v3 hf => ?_)
    refine j_iastore (n := 2) hc dX12_takeWar_91 kM_16 hf (fun I4 hf => ?_)
    refine j_iconst (v := (0 : Int32)) hc dX12_takeWar_92 ci_0 ?_
    refine j_istore_n hc dX12_takeWar_93 (Nat.le_of_ble_eq_true rfl) hf (fun v5 hf => ?_)
    exact j_sub (tX12_takeWar_b94 n d hc n _ _ _ hf) (And.intro rfl (And.intro rfl (trivial)))
  · refine j_aload_n hc dX12_takeWar_50 rfl ?_
    refine j_getR (u := 15) hc dX12_takeWar_51 fgM_X12_52_0 rM_0_23 ?_
    refine j_iload_n hc dX12_takeWar_54 rfl ?_
    refine j_aload_n hc dX12_takeWar_55 rfl ?_
    refine j_getR (u := 12) hc dX12_takeWar_56 fgM_X12_43_0 rM_0_18 ?_
    refine j_iload_n hc dX12_takeWar_59 rfl ?_
    refine j_iaload (n := 12) hc dX12_takeWar_60 kM_12 hf (fun v6 hf => ?_)
    refine j_iastore (n := 12) hc dX12_takeWar_61 kM_15 hf (fun I7 hf => ?_)
    refine j_iinc (w := (1 : Int32)) hc dX12_takeWar_62 rfl ci_1 (Nat.le_of_ble_eq_true rfl) hf (fun v8 hf => ?_)
    refine j_goto (tgt := 44) hc dX12_takeWar_65 rfl ?_
    exact j_sub (hk44 _ _ _ hf) (And.intro rfl (And.intro rfl (trivial)))

def fX12_takeWar_b44 (n d : Nat) : Nat → Int32 → am_I → am_L → Option (Int32 × am_I × am_L)
  | 0 => fun _ _ _ => none
  | m + 1 => fX12_takeWar_b44w n d  (fX12_takeWar_b44 n d m)

set_option maxRecDepth 100000 in
theorem tX12_takeWar_b44 {x : am_X} (n d : Nat) (hc : am_ok x cX12_takeWar yX12_takeWar 2 (some .int) (d + 3) 0 0) {r : Int32} {I' : am_I} {L' : am_L} (m : Nat) : ∀ (a1 : Int32) (I : am_I) (L : am_L) (hf : fX12_takeWar_b44 n d m a1 I L = some (r, I', L')), am_J x (fun S => S = (some (.int r), KM, RM, I', L')) 44 [some (.ref 0), some (.int a1)] [] KM RM I L 0 0 := by
  induction m with
  | zero => intro a1 I L hf; exact (Option.some_ne_none _ hf.symm).elim
  | succ m ih => intro a1 I L hf; exact tX12_takeWar_b44w n d hc (fX12_takeWar_b44 n d m) ih a1 I L hf

set_option maxRecDepth 100000 in
def fX12_takeWar_b18w (n d : Nat) (k18 : Int32 → am_I → am_L → Option (Int32 × am_I × am_L)) (a1 : Int32) (I : am_I) (L : am_L) : Option (Int32 × am_I × am_L) :=
  if (48 : Int32) ≤ a1 then
    (am_lt (0 : Int32) (fun v1 => fX12_takeWar_b44 n d n v1 I L))
    else
    (am_ck a1 48 (am_lt (I 11 (a1).toNatClampNeg) (fun v2 => am_ck a1 48 (am_lt (am_up I 14 (a1).toNatClampNeg v2) (fun I3 => am_lt (a1 + (1 : Int32)) (fun v4 => k18 v4 I3 L))))))

set_option maxRecDepth 100000 in
set_option maxHeartbeats 4000000 in
theorem tX12_takeWar_b18w {x : am_X} (n d : Nat) (hc : am_ok x cX12_takeWar yX12_takeWar 2 (some .int) (d + 3) 0 0) {r : Int32} {I' : am_I} {L' : am_L} (k18 : Int32 → am_I → am_L → Option (Int32 × am_I × am_L)) (hk18 : ∀ (a1 : Int32) (I : am_I) (L : am_L), k18 a1 I L = some (r, I', L') → am_J x (fun S => S = (some (.int r), KM, RM, I', L')) 18 [some (.ref 0), some (.int a1)] [] KM RM I L 0 0) (a1 : Int32) (I : am_I) (L : am_L) (hf : fX12_takeWar_b18w n d k18 a1 I L = some (r, I', L')) : am_J x (fun S => S = (some (.int r), KM, RM, I', L')) 18 [some (.ref 0), some (.int a1)] [] KM RM I L 0 0 := by
  unfold fX12_takeWar_b18w at hf
  refine j_iload_n hc dX12_takeWar_18 rfl ?_
  refine j_bipush (v := (48 : Int32)) hc dX12_takeWar_19 cb_48 ?_
  refine j_icmp_ge (tgt := 42) hc dX12_takeWar_21 rfl hf (fun hf => ?_) (fun hf => ?_)
  · refine j_iconst (v := (0 : Int32)) hc dX12_takeWar_42 ci_0 ?_
    refine j_istore_n hc dX12_takeWar_43 (Nat.le_of_ble_eq_true rfl) hf (fun v1 hf => ?_)
    exact j_sub (tX12_takeWar_b44 n d hc n _ _ _ hf) (And.intro rfl (And.intro rfl (trivial)))
  · refine j_aload_n hc dX12_takeWar_24 rfl ?_
    refine j_getR (u := 14) hc dX12_takeWar_25 fgM_X12_49_0 rM_0_22 ?_
    refine j_iload_n hc dX12_takeWar_28 rfl ?_
    refine j_aload_n hc dX12_takeWar_29 rfl ?_
    refine j_getR (u := 11) hc dX12_takeWar_30 fgM_X12_40_0 rM_0_17 ?_
    refine j_iload_n hc dX12_takeWar_33 rfl ?_
    refine j_iaload (n := 48) hc dX12_takeWar_34 kM_11 hf (fun v2 hf => ?_)
    refine j_iastore (n := 48) hc dX12_takeWar_35 kM_14 hf (fun I3 hf => ?_)
    refine j_iinc (w := (1 : Int32)) hc dX12_takeWar_36 rfl ci_1 (Nat.le_of_ble_eq_true rfl) hf (fun v4 hf => ?_)
    refine j_goto (tgt := 18) hc dX12_takeWar_39 rfl ?_
    exact j_sub (hk18 _ _ _ hf) (And.intro rfl (And.intro rfl (trivial)))

def fX12_takeWar_b18 (n d : Nat) : Nat → Int32 → am_I → am_L → Option (Int32 × am_I × am_L)
  | 0 => fun _ _ _ => none
  | m + 1 => fX12_takeWar_b18w n d  (fX12_takeWar_b18 n d m)

set_option maxRecDepth 100000 in
theorem tX12_takeWar_b18 {x : am_X} (n d : Nat) (hc : am_ok x cX12_takeWar yX12_takeWar 2 (some .int) (d + 3) 0 0) {r : Int32} {I' : am_I} {L' : am_L} (m : Nat) : ∀ (a1 : Int32) (I : am_I) (L : am_L) (hf : fX12_takeWar_b18 n d m a1 I L = some (r, I', L')), am_J x (fun S => S = (some (.int r), KM, RM, I', L')) 18 [some (.ref 0), some (.int a1)] [] KM RM I L 0 0 := by
  induction m with
  | zero => intro a1 I L hf; exact (Option.some_ne_none _ hf.symm).elim
  | succ m ih => intro a1 I L hf; exact tX12_takeWar_b18w n d hc (fX12_takeWar_b18 n d m) ih a1 I L hf

set_option maxRecDepth 100000 in
def fX12_takeWar (n d : Nat) (I : am_I) (L : am_L) : Option (Int32 × am_I × am_L) :=
  am_lt (am_up I 0 25 (I 0 20)) (fun I1 => am_lt (am_up I1 0 26 (I1 0 21)) (fun I2 => am_lt (0 : Int32) (fun v3 => fX12_takeWar_b18 n d n v3 I2 L)))

set_option maxRecDepth 100000 in
set_option maxHeartbeats 4000000 in
theorem tX12_takeWar {x : am_X} (n d : Nat) (hc : am_ok x cX12_takeWar yX12_takeWar 2 (some .int) (d + 3) 0 0) {r : Int32} {I' : am_I} {L' : am_L} (I : am_I) (L : am_L) (hf : fX12_takeWar n d I L = some (r, I', L')) : am_J x (fun S => S = (some (.int r), KM, RM, I', L')) 0 [some (.ref 0), none] [] KM RM I L 0 0 := by
  unfold fX12_takeWar at hf
  refine j_aload_n hc dX12_takeWar_0 rfl ?_
  refine j_aload_n hc dX12_takeWar_1 rfl ?_
  refine j_getI hc dX12_takeWar_2 fgM_X12_230_0 ?_
  refine j_putI hc dX12_takeWar_5 fpM_X12_250_0 rfl rfl hf (fun I1 hf => ?_)
  refine j_aload_n hc dX12_takeWar_8 rfl ?_
  refine j_aload_n hc dX12_takeWar_9 rfl ?_
  refine j_getI hc dX12_takeWar_10 fgM_X12_233_0 ?_
  refine j_putI hc dX12_takeWar_13 fpM_X12_253_0 rfl rfl hf (fun I2 hf => ?_)
  refine j_iconst (v := (0 : Int32)) hc dX12_takeWar_16 ci_0 ?_
  refine j_istore_n hc dX12_takeWar_17 (Nat.le_of_ble_eq_true rfl) hf (fun v3 hf => ?_)
  exact j_sub (tX12_takeWar_b18 n d hc n _ _ _ hf) (And.intro rfl (And.intro rfl (trivial)))

set_option maxRecDepth 100000 in
theorem qX12_takeWar (l : Launch) (n d : Nat) (I : am_I) (L : am_L) (r : Int32) (I' : am_I) (L' : am_L) (hf : fX12_takeWar n d I L = some (r, I', L')) : am_C l yX12_takeWar cX12_takeWar 2 (some .int) (d + 3) [.ref 0] KM RM I L (some (.int r)) I' L' := by
  exact am_intro (plainFor_of_name plX12) (fun _ _ => trivial) (Nat.le_of_ble_eq_true rfl) (fun x hl hc => by subst hl; exact j_sub (tX12_takeWar n d hc  _ _ hf) (And.intro rfl (trivial)))
set_option maxRecDepth 100000 in
def fX12_text_b22 (n d : Nat) (a1 : Int32) (I : am_I) (L : am_L) : Option (Int32 × am_I × am_L) :=
  if a1 = (1 : Int32) then
    (if (4 : Int32) ≤ (I 0 13) then
      (some ((-1 : Int32), I, L))
      else
      (am_b3 (fX12_readLaw n d (I 0 13) I L) (fun v1 I1 L1 => if v1 = (-1 : Int32) then
        (am_lt (am_up I1 0 2 (0 : Int32)) (fun I2 => am_lt (am_up I2 0 13 ((I2 0 13) + (1 : Int32))) (fun I3 => some (((I3 0 13) - (1 : Int32)), I3, L1))))
        else
        (some ((-1 : Int32), I1, L1)))))
    else
    (some ((-1 : Int32), I, L))

set_option maxRecDepth 100000 in
set_option maxHeartbeats 4000000 in
theorem tX12_text_b22 {x : am_X} (n d : Nat) (hc : am_ok x cX12_text yX12_text 2 (some .int) (d + 9) 0 0) {r : Int32} {I' : am_I} {L' : am_L} (a1 : Int32) (I : am_I) (L : am_L) (hf : fX12_text_b22 n d a1 I L = some (r, I', L')) : am_J x (fun S => S = (some (.int r), KM, RM, I', L')) 22 [some (.ref 0), some (.int a1)] [] KM RM I L 0 0 := by
  unfold fX12_text_b22 at hf
  refine j_iload_n hc dX12_text_22 rfl ?_
  refine j_iconst (v := (1 : Int32)) hc dX12_text_23 ci_1 ?_
  refine j_icmp_ne (tgt := 69) hc dX12_text_24 rfl hf (fun hf => ?_) (fun hf => ?_)
  · refine j_iconst (v := (-1 : Int32)) hc dX12_text_69 ci_m1 ?_
    exact j_ireturn hc dX12_text_70 rfl rfl hf
  · refine j_aload_n hc dX12_text_27 rfl ?_
    refine j_getI hc dX12_text_28 fgM_X12_272_0 ?_
    refine j_iconst (v := (4 : Int32)) hc dX12_text_31 ci_4 ?_
    refine j_icmp_ge (tgt := 69) hc dX12_text_32 rfl hf (fun hf => ?_) (fun hf => ?_)
    · refine j_iconst (v := (-1 : Int32)) hc dX12_text_69 ci_m1 ?_
      exact j_ireturn hc dX12_text_70 rfl rfl hf
    · refine j_aload_n hc dX12_text_35 rfl ?_
      refine j_aload_n hc dX12_text_36 rfl ?_
      refine j_getI hc dX12_text_37 fgM_X12_272_0 ?_
      refine j_callVI (t := 0) (As := [.int (I 0 13)]) hc dX12_text_40 kw_1678 mX12_readLaw kM_0 clX12 rfl (by omega) (Nat.le_of_ble_eq_true rfl) (Nat.le_of_ble_eq_true rfl) ⟨Nat.le_refl _, Nat.le_refl _⟩ hf (fun v I' L' h => qX12_readLaw x.2.1 n d (I 0 13) I L v I' L' h) (fun v1 I1 L1 hf => ?_)
      refine j_iconst (v := (-1 : Int32)) hc dX12_text_43 ci_m1 ?_
      refine j_icmp_ne (tgt := 69) hc dX12_text_44 rfl hf (fun hf => ?_) (fun hf => ?_)
      · refine j_iconst (v := (-1 : Int32)) hc dX12_text_69 ci_m1 ?_
        exact j_ireturn hc dX12_text_70 rfl rfl hf
      · refine j_aload_n hc dX12_text_47 rfl ?_
        refine j_iconst (v := (0 : Int32)) hc dX12_text_48 ci_0 ?_
        refine j_putI hc dX12_text_49 fpM_X12_98_0 rfl rfl hf (fun I2 hf => ?_)
        refine j_aload_n hc dX12_text_52 rfl ?_
        refine j_dup hc dX12_text_53 rfl ?_
        refine j_getI hc dX12_text_54 fgM_X12_272_0 ?_
        refine j_iconst (v := (1 : Int32)) hc dX12_text_57 ci_1 ?_
        refine j_iadd hc dX12_text_58 ?_
        refine j_putI hc dX12_text_59 fpM_X12_272_0 rfl rfl hf (fun I3 hf => ?_)
        refine j_aload_n hc dX12_text_62 rfl ?_
        refine j_getI hc dX12_text_63 fgM_X12_272_0 ?_
        refine j_iconst (v := (1 : Int32)) hc dX12_text_66 ci_1 ?_
        refine j_isub hc dX12_text_67 ?_
        exact j_ireturn hc dX12_text_68 rfl rfl hf

set_option maxRecDepth 100000 in
def fX12_text (n d : Nat) (a1 : Int32) (I : am_I) (L : am_L) : Option (Int32 × am_I × am_L) :=
  if a1 = 0 then
    (am_b3 (fX12_readWar n d I L) (fun v1 I1 L1 => if v1 = (-1 : Int32) then
      (am_lt (am_up I1 0 2 (0 : Int32)) (fun I2 => am_b3 (fX12_takeWar n d I2 L1) (fun v3 I3 L3 => some (v3, I3, L3))))
      else
      (fX12_text_b22 n d a1 I1 L1)))
    else
    (fX12_text_b22 n d a1 I L)

set_option maxRecDepth 100000 in
set_option maxHeartbeats 4000000 in
theorem tX12_text {x : am_X} (n d : Nat) (hc : am_ok x cX12_text yX12_text 2 (some .int) (d + 9) 0 0) {r : Int32} {I' : am_I} {L' : am_L} (a1 : Int32) (I : am_I) (L : am_L) (hf : fX12_text n d a1 I L = some (r, I', L')) : am_J x (fun S => S = (some (.int r), KM, RM, I', L')) 0 [some (.ref 0), some (.int a1)] [] KM RM I L 0 0 := by
  unfold fX12_text at hf
  refine j_iload_n hc dX12_text_0 rfl ?_
  refine j_if_ne (tgt := 22) hc dX12_text_1 rfl hf (fun hf => ?_) (fun hf => ?_)
  · exact j_sub (tX12_text_b22 n d hc _ _ _ hf) (And.intro rfl (And.intro rfl (trivial)))
  · refine j_aload_n hc dX12_text_4 rfl ?_
    refine j_callVI (t := 0) (As := []) hc dX12_text_5 kw_1629 mX12_readWar kM_0 clX12 rfl (by omega) (Nat.le_of_ble_eq_true rfl) (Nat.le_of_ble_eq_true rfl) ⟨Nat.le_refl _, Nat.le_refl _⟩ hf (fun v I' L' h => qX12_readWar x.2.1 n d I L v I' L' h) (fun v1 I1 L1 hf => ?_)
    refine j_iconst (v := (-1 : Int32)) hc dX12_text_8 ci_m1 ?_
    refine j_icmp_ne (tgt := 22) hc dX12_text_9 rfl hf (fun hf => ?_) (fun hf => ?_)
    · exact j_sub (tX12_text_b22 n d hc _ _ _ hf) (And.intro rfl (And.intro rfl (trivial)))
    · refine j_aload_n hc dX12_text_12 rfl ?_
      refine j_iconst (v := (0 : Int32)) hc dX12_text_13 ci_0 ?_
      refine j_putI hc dX12_text_14 fpM_X12_98_0 rfl rfl hf (fun I2 hf => ?_)
      refine j_aload_n hc dX12_text_17 rfl ?_
      refine j_callVI (t := 0) (As := []) hc dX12_text_18 kw_1752 mX12_takeWar kM_0 clX12 rfl (by omega) (Nat.le_of_ble_eq_true rfl) (Nat.le_of_ble_eq_true rfl) ⟨Nat.le_refl _, Nat.le_refl _⟩ hf (fun v I' L' h => qX12_takeWar x.2.1 n d I2 L1 v I' L' h) (fun v3 I3 L3 hf => ?_)
      exact j_ireturn hc dX12_text_21 rfl rfl hf

set_option maxRecDepth 100000 in
theorem qX12_text (l : Launch) (n d : Nat) (a1 : Int32) (I : am_I) (L : am_L) (r : Int32) (I' : am_I) (L' : am_L) (hf : fX12_text n d a1 I L = some (r, I', L')) : am_C l yX12_text cX12_text 2 (some .int) (d + 9) [.ref 0, .int a1] KM RM I L (some (.int r)) I' L' := by
  exact am_intro (plainFor_of_name plX12) (fun _ _ => trivial) (Nat.le_of_ble_eq_true rfl) (fun x hl hc => by subst hl; exact j_sub (tX12_text n d hc _ _ _ hf) (And.intro rfl (And.intro rfl (trivial))))
set_option maxRecDepth 100000 in
def fX12_isMan (n d : Nat) (a1 : Int32) (I : am_I) (L : am_L) : Option (Int32 × am_I × am_L) :=
  am_b3 (fX12_in n d a1 (0 : Int32) ((I 0 25) - (1 : Int32)) I L) (fun v1 I1 L1 => am_bl v1 (some (v1, I1, L1)))

set_option maxRecDepth 100000 in
set_option maxHeartbeats 4000000 in
theorem tX12_isMan {x : am_X} (n d : Nat) (hc : am_ok x cX12_isMan yX12_isMan 2 (some .boolean) (d + 2) 0 0) {r : Int32} {I' : am_I} {L' : am_L} (a1 : Int32) (I : am_I) (L : am_L) (hf : fX12_isMan n d a1 I L = some (r, I', L')) : am_J x (fun S => S = (some (.int r), KM, RM, I', L')) 0 [some (.ref 0), some (.int a1)] [] KM RM I L 0 0 := by
  unfold fX12_isMan at hf
  refine j_iload_n hc dX12_isMan_0 rfl ?_
  refine j_iconst (v := (0 : Int32)) hc dX12_isMan_1 ci_0 ?_
  refine j_aload_n hc dX12_isMan_2 rfl ?_
  refine j_getI hc dX12_isMan_3 fgM_X12_250_0 ?_
  refine j_iconst (v := (1 : Int32)) hc dX12_isMan_6 ci_1 ?_
  refine j_isub hc dX12_isMan_7 ?_
  refine j_callSI (As := [.int a1, .int (0 : Int32), .int ((I 0 25) - (1 : Int32))]) hc dX12_isMan_8 kw_1671 mX12_in  rfl (by omega) (Nat.le_of_ble_eq_true rfl) (Nat.le_of_ble_eq_true rfl) ⟨Nat.le_refl _, Nat.le_refl _⟩ hf (fun v I' L' h => qX12_in x.2.1 n d a1 (0 : Int32) ((I 0 25) - (1 : Int32)) I L v I' L' h) (fun v1 I1 L1 hf => ?_)
  exact j_zreturn hc dX12_isMan_11 rfl rfl hf

set_option maxRecDepth 100000 in
theorem qX12_isMan (l : Launch) (n d : Nat) (a1 : Int32) (I : am_I) (L : am_L) (r : Int32) (I' : am_I) (L' : am_L) (hf : fX12_isMan n d a1 I L = some (r, I', L')) : am_C l yX12_isMan cX12_isMan 2 (some .boolean) (d + 2) [.ref 0, .int a1] KM RM I L (some (.int r)) I' L' := by
  exact am_intro (plainFor_of_name plX12) (fun _ _ => trivial) (Nat.le_of_ble_eq_true rfl) (fun x hl hc => by subst hl; exact j_sub (tX12_isMan n d hc _ _ _ hf) (And.intro rfl (And.intro rfl (trivial))))
set_option maxRecDepth 100000 in
def fX12_side (n d : Nat) (a1 : Int32) (I : am_I) (L : am_L) : Option (Int32 × am_I × am_L) :=
  am_ck (((6 : Int32) * a1) + (0 : Int32)) 48 (am_lt (I 14 ((((6 : Int32) * a1) + (0 : Int32))).toNatClampNeg) (fun v1 => some (v1, I, L)))

set_option maxRecDepth 100000 in
set_option maxHeartbeats 4000000 in
theorem tX12_side {x : am_X} (n d : Nat) (hc : am_ok x cX12_side yX12_side 2 (some .int) (d + 1) 0 0) {r : Int32} {I' : am_I} {L' : am_L} (a1 : Int32) (I : am_I) (L : am_L) (hf : fX12_side n d a1 I L = some (r, I', L')) : am_J x (fun S => S = (some (.int r), KM, RM, I', L')) 0 [some (.ref 0), some (.int a1)] [] KM RM I L 0 0 := by
  unfold fX12_side at hf
  refine j_aload_n hc dX12_side_0 rfl ?_
  refine j_getR (u := 14) hc dX12_side_1 fgM_X12_49_0 rM_0_22 ?_
  refine j_bipush (v := (6 : Int32)) hc dX12_side_4 cb_6 ?_
  refine j_iload_n hc dX12_side_6 rfl ?_
  refine j_imul hc dX12_side_7 ?_
  refine j_iconst (v := (0 : Int32)) hc dX12_side_8 ci_0 ?_
  refine j_iadd hc dX12_side_9 ?_
  refine j_iaload (n := 48) hc dX12_side_10 kM_14 hf (fun v1 hf => ?_)
  exact j_ireturn hc dX12_side_11 rfl rfl hf

set_option maxRecDepth 100000 in
theorem qX12_side (l : Launch) (n d : Nat) (a1 : Int32) (I : am_I) (L : am_L) (r : Int32) (I' : am_I) (L' : am_L) (hf : fX12_side n d a1 I L = some (r, I', L')) : am_C l yX12_side cX12_side 2 (some .int) (d + 1) [.ref 0, .int a1] KM RM I L (some (.int r)) I' L' := by
  exact am_intro (plainFor_of_name plX12) (fun _ _ => trivial) (Nat.le_of_ble_eq_true rfl) (fun x hl hc => by subst hl; exact j_sub (tX12_side n d hc _ _ _ hf) (And.intro rfl (And.intro rfl (trivial))))
set_option maxRecDepth 100000 in
def fX12_bounded (n d : Nat) (a0 : Int64) (I : am_I) (L : am_L) : Option (Int32 × am_I × am_L) :=
  am_b3 (fJ9_min_f86c9 n d (1000000 : Int64) a0 I L) (fun v1 I1 L1 => am_b3 (fJ9_max_f86c9 n d (-1000000 : Int64) v1 I1 L1) (fun v2 I2 L2 => some (v2.toInt32, I2, L2)))

set_option maxRecDepth 100000 in
set_option maxHeartbeats 4000000 in
theorem tX12_bounded {x : am_X} (n d : Nat) (hc : am_ok x cX12_bounded yX12_bounded 2 (some .int) (d + 2) 0 0) {r : Int32} {I' : am_I} {L' : am_L} (a0 : Int64) (I : am_I) (L : am_L) (hf : fX12_bounded n d a0 I L = some (r, I', L')) : am_J x (fun S => S = (some (.int r), KM, RM, I', L')) 0 [some (.long a0), none] [] KM RM I L 0 0 := by
  unfold fX12_bounded at hf
  refine j_ldc2 (v := (-1000000 : Int64)) hc dX12_bounded_0 kw_1798 ?_
  refine j_ldc2 (v := (1000000 : Int64)) hc dX12_bounded_3 kw_1799 ?_
  refine j_lload_n hc dX12_bounded_6 rfl ?_
  refine j_callSL (As := [.long (1000000 : Int64), .long a0]) hc dX12_bounded_7 kw_1800 mJ9_min_f86c9  rfl (by omega) (Nat.le_of_ble_eq_true rfl) (Nat.le_of_ble_eq_true rfl) ⟨Nat.le_refl _, Nat.le_refl _⟩ hf (fun v I' L' h => qJ9_min_f86c9 x.2.1 n d (1000000 : Int64) a0 I L v I' L' h) (fun v1 I1 L1 hf => ?_)
  refine j_callSL (As := [.long (-1000000 : Int64), .long v1]) hc dX12_bounded_10 kw_1803 mJ9_max_f86c9  rfl (by omega) (Nat.le_of_ble_eq_true rfl) (Nat.le_of_ble_eq_true rfl) ⟨Nat.le_refl _, Nat.le_refl _⟩ hf (fun v I' L' h => qJ9_max_f86c9 x.2.1 n d (-1000000 : Int64) v1 I1 L1 v I' L' h) (fun v2 I2 L2 hf => ?_)
  refine j_l2i hc dX12_bounded_13 ?_
  exact j_ireturn hc dX12_bounded_14 rfl rfl hf

set_option maxRecDepth 100000 in
theorem qX12_bounded (l : Launch) (n d : Nat) (a0 : Int64) (I : am_I) (L : am_L) (r : Int32) (I' : am_I) (L' : am_L) (hf : fX12_bounded n d a0 I L = some (r, I', L')) : am_C l yX12_bounded cX12_bounded 2 (some .int) (d + 2) [.long a0] KM RM I L (some (.int r)) I' L' := by
  exact am_intro (plainFor_of_name plX12) (fun _ _ => trivial) (Nat.le_of_ble_eq_true rfl) (fun x hl hc => by subst hl; exact j_sub (tX12_bounded n d hc _ _ _ hf) (And.intro rfl (trivial)))
set_option maxRecDepth 100000 in
def fX12_worked_b156 (n d : Nat) (I : am_I) (L : am_L) : Option (Int32 × am_I × am_L) :=
  some ((1 : Int32), I, L)

set_option maxRecDepth 100000 in
set_option maxHeartbeats 4000000 in
theorem tX12_worked_b156 {x : am_X} (n d : Nat) (hc : am_ok x cX12_worked yX12_worked 5 (some .int) (d + 3) 0 0) {r : Int32} {I' : am_I} {L' : am_L} (I : am_I) (L : am_L) (hf : fX12_worked_b156 n d I L = some (r, I', L')) : am_J x (fun S => S = (some (.int r), KM, RM, I', L')) 156 [none, none, none, none, none] [] KM RM I L 0 0 := by
  unfold fX12_worked_b156 at hf
  refine j_iconst (v := (1 : Int32)) hc dX12_worked_156 ci_1 ?_
  refine j_goto (tgt := 161) hc dX12_worked_157 rfl ?_
  exact j_ireturn hc dX12_worked_161 rfl rfl hf

set_option maxRecDepth 100000 in
def fX12_worked (n d : Nat) (a0 : Int32) (a1 : Int64) (a3 : Int64) (I : am_I) (L : am_L) : Option (Int32 × am_I × am_L) :=
  am_sw a0 2 [am_b3 (fX12_bounded n d (a1 + a3) I L) (fun v1 I1 L1 => some (v1, I1, L1)), am_b3 (fX12_bounded n d (a1 - a3) I L) (fun v2 I2 L2 => some (v2, I2, L2)), am_b3 (fX12_bounded n d (a1 * a3) I L) (fun v3 I3 L3 => some (v3, I3, L3)), if (lg_cmp a3 (0 : Int64)) = 0 then
        (some ((0 : Int32), I, L))
        else
        ((if a3 = 0 then none else am_b3 (fX12_bounded n d (a1 / a3) I L) (fun v4 I4 L4 => some (v4, I4, L4)))), if (lg_cmp a1 a3) = 0 then
        (some ((1 : Int32), I, L))
        else
        (some ((0 : Int32), I, L)), if (0 : Int32) ≤ (lg_cmp a1 a3) then
        (some ((0 : Int32), I, L))
        else
        (some ((1 : Int32), I, L)), if (lg_cmp a1 a3) ≤ 0 then
        (some ((0 : Int32), I, L))
        else
        (some ((1 : Int32), I, L)), if (lg_cmp a1 (0 : Int64)) = 0 then
        (if (lg_cmp a3 (0 : Int64)) = 0 then
          (some ((0 : Int32), I, L))
          else
          (fX12_worked_b156 n d I L))
        else
        (fX12_worked_b156 n d I L), if (lg_cmp a1 (0 : Int64)) = 0 then
        (some ((0 : Int32), I, L))
        else
        (if (lg_cmp a3 (0 : Int64)) = 0 then
          (some ((0 : Int32), I, L))
          else
          (some ((1 : Int32), I, L)))] (if (lg_cmp a1 (0 : Int64)) = 0 then
      (if (lg_cmp a3 (0 : Int64)) = 0 then
        (some ((0 : Int32), I, L))
        else
        (fX12_worked_b156 n d I L))
      else
      (fX12_worked_b156 n d I L))

set_option maxRecDepth 100000 in
set_option maxHeartbeats 4000000 in
theorem tX12_worked {x : am_X} (n d : Nat) (hc : am_ok x cX12_worked yX12_worked 5 (some .int) (d + 3) 0 0) {r : Int32} {I' : am_I} {L' : am_L} (a0 : Int32) (a1 : Int64) (a3 : Int64) (I : am_I) (L : am_L) (hf : fX12_worked n d a0 a1 a3 I L = some (r, I', L')) : am_J x (fun S => S = (some (.int r), KM, RM, I', L')) 0 [some (.int a0), some (.long a1), none, some (.long a3), none] [] KM RM I L 0 0 := by
  unfold fX12_worked at hf
  refine j_iload_n hc dX12_worked_0 rfl ?_
  refine j_tab (lo := 2) (tgt := 144) hc dX12_worked_1 rfl rfl rfl hf (fun hf => ?_) (fun k K off tgt2 hK ho ht hf => ?_) (fun k off ho => ?_)
  · refine j_lload_n hc dX12_worked_144 rfl ?_
    refine j_lconst (v := (0 : Int64)) hc dX12_worked_145 cl__0 ?_
    refine j_lcmp hc dX12_worked_146 ?_
    refine j_if_ne (tgt := 156) hc dX12_worked_147 rfl hf (fun hf => ?_) (fun hf => ?_)
    · exact j_sub (tX12_worked_b156 n d hc _ _ hf) (trivial)
    · refine j_lload_n hc dX12_worked_150 rfl ?_
      refine j_lconst (v := (0 : Int64)) hc dX12_worked_151 cl__0 ?_
      refine j_lcmp hc dX12_worked_152 ?_
      refine j_if_eq (tgt := 160) hc dX12_worked_153 rfl hf (fun hf => ?_) (fun hf => ?_)
      · refine j_iconst (v := (0 : Int32)) hc dX12_worked_160 ci_0 ?_
        exact j_ireturn hc dX12_worked_161 rfl rfl hf
      · exact j_sub (tX12_worked_b156 n d hc _ _ hf) (trivial)
  · match k, hK, ho with
    | 0, hK, ho =>
      cases hK
      have ho : (51 : Int) = off := Option.some.inj ho
      subst ho
      have ht : tgt2 = 52 := by omega
      subst ht
      refine j_lload_n hc dX12_worked_52 rfl ?_
      refine j_lload_n hc dX12_worked_53 rfl ?_
      refine j_ladd hc dX12_worked_54 ?_
      refine j_callSI (As := [.long (a1 + a3)]) hc dX12_worked_55 kw_1795 mX12_bounded  rfl (by omega) (Nat.le_of_ble_eq_true rfl) (Nat.le_of_ble_eq_true rfl) ⟨Nat.le_refl _, Nat.le_refl _⟩ hf (fun v I' L' h => qX12_bounded x.2.1 n d (a1 + a3) I L v I' L' h) (fun v1 I1 L1 hf => ?_)
      exact j_ireturn hc dX12_worked_58 rfl rfl hf
    | 1, hK, ho =>
      cases hK
      have ho : (58 : Int) = off := Option.some.inj ho
      subst ho
      have ht : tgt2 = 59 := by omega
      subst ht
      refine j_lload_n hc dX12_worked_59 rfl ?_
      refine j_lload_n hc dX12_worked_60 rfl ?_
      refine j_lsub hc dX12_worked_61 ?_
      refine j_callSI (As := [.long (a1 - a3)]) hc dX12_worked_62 kw_1795 mX12_bounded  rfl (by omega) (Nat.le_of_ble_eq_true rfl) (Nat.le_of_ble_eq_true rfl) ⟨Nat.le_refl _, Nat.le_refl _⟩ hf (fun v I' L' h => qX12_bounded x.2.1 n d (a1 - a3) I L v I' L' h) (fun v2 I2 L2 hf => ?_)
      exact j_ireturn hc dX12_worked_65 rfl rfl hf
    | 2, hK, ho =>
      cases hK
      have ho : (65 : Int) = off := Option.some.inj ho
      subst ho
      have ht : tgt2 = 66 := by omega
      subst ht
      refine j_lload_n hc dX12_worked_66 rfl ?_
      refine j_lload_n hc dX12_worked_67 rfl ?_
      refine j_lmul hc dX12_worked_68 ?_
      refine j_callSI (As := [.long (a1 * a3)]) hc dX12_worked_69 kw_1795 mX12_bounded  rfl (by omega) (Nat.le_of_ble_eq_true rfl) (Nat.le_of_ble_eq_true rfl) ⟨Nat.le_refl _, Nat.le_refl _⟩ hf (fun v I' L' h => qX12_bounded x.2.1 n d (a1 * a3) I L v I' L' h) (fun v3 I3 L3 hf => ?_)
      exact j_ireturn hc dX12_worked_72 rfl rfl hf
    | 3, hK, ho =>
      cases hK
      have ho : (72 : Int) = off := Option.some.inj ho
      subst ho
      have ht : tgt2 = 73 := by omega
      subst ht
      refine j_lload_n hc dX12_worked_73 rfl ?_
      refine j_lconst (v := (0 : Int64)) hc dX12_worked_74 cl__0 ?_
      refine j_lcmp hc dX12_worked_75 ?_
      refine j_if_ne (tgt := 83) hc dX12_worked_76 rfl hf (fun hf => ?_) (fun hf => ?_)
      · refine j_lload_n hc dX12_worked_83 rfl ?_
        refine j_lload_n hc dX12_worked_84 rfl ?_
        refine j_ldiv hc dX12_worked_85 hf (fun hf => ?_)
        refine j_callSI (As := [.long (a1 / a3)]) hc dX12_worked_86 kw_1795 mX12_bounded  rfl (by omega) (Nat.le_of_ble_eq_true rfl) (Nat.le_of_ble_eq_true rfl) ⟨Nat.le_refl _, Nat.le_refl _⟩ hf (fun v I' L' h => qX12_bounded x.2.1 n d (a1 / a3) I L v I' L' h) (fun v4 I4 L4 hf => ?_)
        exact j_ireturn hc dX12_worked_89 rfl rfl hf
      · refine j_iconst (v := (0 : Int32)) hc dX12_worked_79 ci_0 ?_
        refine j_goto (tgt := 89) hc dX12_worked_80 rfl ?_
        exact j_ireturn hc dX12_worked_89 rfl rfl hf
    | 4, hK, ho =>
      cases hK
      have ho : (89 : Int) = off := Option.some.inj ho
      subst ho
      have ht : tgt2 = 90 := by omega
      subst ht
      refine j_lload_n hc dX12_worked_90 rfl ?_
      refine j_lload_n hc dX12_worked_91 rfl ?_
      refine j_lcmp hc dX12_worked_92 ?_
      refine j_if_ne (tgt := 100) hc dX12_worked_93 rfl hf (fun hf => ?_) (fun hf => ?_)
      · refine j_iconst (v := (0 : Int32)) hc dX12_worked_100 ci_0 ?_
        exact j_ireturn hc dX12_worked_101 rfl rfl hf
      · refine j_iconst (v := (1 : Int32)) hc dX12_worked_96 ci_1 ?_
        refine j_goto (tgt := 101) hc dX12_worked_97 rfl ?_
        exact j_ireturn hc dX12_worked_101 rfl rfl hf
    | 5, hK, ho =>
      cases hK
      have ho : (101 : Int) = off := Option.some.inj ho
      subst ho
      have ht : tgt2 = 102 := by omega
      subst ht
      refine j_lload_n hc dX12_worked_102 rfl ?_
      refine j_lload_n hc dX12_worked_103 rfl ?_
      refine j_lcmp hc dX12_worked_104 ?_
      refine j_if_ge (tgt := 112) hc dX12_worked_105 rfl hf (fun hf => ?_) (fun hf => ?_)
      · refine j_iconst (v := (0 : Int32)) hc dX12_worked_112 ci_0 ?_
        exact j_ireturn hc dX12_worked_113 rfl rfl hf
      · refine j_iconst (v := (1 : Int32)) hc dX12_worked_108 ci_1 ?_
        refine j_goto (tgt := 113) hc dX12_worked_109 rfl ?_
        exact j_ireturn hc dX12_worked_113 rfl rfl hf
    | 6, hK, ho =>
      cases hK
      have ho : (113 : Int) = off := Option.some.inj ho
      subst ho
      have ht : tgt2 = 114 := by omega
      subst ht
      refine j_lload_n hc dX12_worked_114 rfl ?_
      refine j_lload_n hc dX12_worked_115 rfl ?_
      refine j_lcmp hc dX12_worked_116 ?_
      refine j_if_le (tgt := 124) hc dX12_worked_117 rfl hf (fun hf => ?_) (fun hf => ?_)
      · refine j_iconst (v := (0 : Int32)) hc dX12_worked_124 ci_0 ?_
        exact j_ireturn hc dX12_worked_125 rfl rfl hf
      · refine j_iconst (v := (1 : Int32)) hc dX12_worked_120 ci_1 ?_
        refine j_goto (tgt := 125) hc dX12_worked_121 rfl ?_
        exact j_ireturn hc dX12_worked_125 rfl rfl hf
    | 7, hK, ho =>
      cases hK
      have ho : (143 : Int) = off := Option.some.inj ho
      subst ho
      have ht : tgt2 = 144 := by omega
      subst ht
      refine j_lload_n hc dX12_worked_144 rfl ?_
      refine j_lconst (v := (0 : Int64)) hc dX12_worked_145 cl__0 ?_
      refine j_lcmp hc dX12_worked_146 ?_
      refine j_if_ne (tgt := 156) hc dX12_worked_147 rfl hf (fun hf => ?_) (fun hf => ?_)
      · exact j_sub (tX12_worked_b156 n d hc _ _ hf) (trivial)
      · refine j_lload_n hc dX12_worked_150 rfl ?_
        refine j_lconst (v := (0 : Int64)) hc dX12_worked_151 cl__0 ?_
        refine j_lcmp hc dX12_worked_152 ?_
        refine j_if_eq (tgt := 160) hc dX12_worked_153 rfl hf (fun hf => ?_) (fun hf => ?_)
        · refine j_iconst (v := (0 : Int32)) hc dX12_worked_160 ci_0 ?_
          exact j_ireturn hc dX12_worked_161 rfl rfl hf
        · exact j_sub (tX12_worked_b156 n d hc _ _ hf) (trivial)
    | 8, hK, ho =>
      cases hK
      have ho : (125 : Int) = off := Option.some.inj ho
      subst ho
      have ht : tgt2 = 126 := by omega
      subst ht
      refine j_lload_n hc dX12_worked_126 rfl ?_
      refine j_lconst (v := (0 : Int64)) hc dX12_worked_127 cl__0 ?_
      refine j_lcmp hc dX12_worked_128 ?_
      refine j_if_eq (tgt := 142) hc dX12_worked_129 rfl hf (fun hf => ?_) (fun hf => ?_)
      · refine j_iconst (v := (0 : Int32)) hc dX12_worked_142 ci_0 ?_
        exact j_ireturn hc dX12_worked_143 rfl rfl hf
      · refine j_lload_n hc dX12_worked_132 rfl ?_
        refine j_lconst (v := (0 : Int64)) hc dX12_worked_133 cl__0 ?_
        refine j_lcmp hc dX12_worked_134 ?_
        refine j_if_eq (tgt := 142) hc dX12_worked_135 rfl hf (fun hf => ?_) (fun hf => ?_)
        · refine j_iconst (v := (0 : Int32)) hc dX12_worked_142 ci_0 ?_
          exact j_ireturn hc dX12_worked_143 rfl rfl hf
        · refine j_iconst (v := (1 : Int32)) hc dX12_worked_138 ci_1 ?_
          refine j_goto (tgt := 143) hc dX12_worked_139 rfl ?_
          exact j_ireturn hc dX12_worked_143 rfl rfl hf
    | k + 9, hK, ho => simp at hK
  · match k, ho with
    | 0, ho => have ho : (51 : Int) = off := Option.some.inj ho; subst ho; exact ⟨52, rfl⟩
    | 1, ho => have ho : (58 : Int) = off := Option.some.inj ho; subst ho; exact ⟨59, rfl⟩
    | 2, ho => have ho : (65 : Int) = off := Option.some.inj ho; subst ho; exact ⟨66, rfl⟩
    | 3, ho => have ho : (72 : Int) = off := Option.some.inj ho; subst ho; exact ⟨73, rfl⟩
    | 4, ho => have ho : (89 : Int) = off := Option.some.inj ho; subst ho; exact ⟨90, rfl⟩
    | 5, ho => have ho : (101 : Int) = off := Option.some.inj ho; subst ho; exact ⟨102, rfl⟩
    | 6, ho => have ho : (113 : Int) = off := Option.some.inj ho; subst ho; exact ⟨114, rfl⟩
    | 7, ho => have ho : (143 : Int) = off := Option.some.inj ho; subst ho; exact ⟨144, rfl⟩
    | 8, ho => have ho : (125 : Int) = off := Option.some.inj ho; subst ho; exact ⟨126, rfl⟩
    | k + 9, ho => simp at ho

set_option maxRecDepth 100000 in
theorem qX12_worked (l : Launch) (n d : Nat) (a0 : Int32) (a1 : Int64) (a3 : Int64) (I : am_I) (L : am_L) (r : Int32) (I' : am_I) (L' : am_L) (hf : fX12_worked n d a0 a1 a3 I L = some (r, I', L')) : am_C l yX12_worked cX12_worked 5 (some .int) (d + 3) [.int a0, .long a1, .long a3] KM RM I L (some (.int r)) I' L' := by
  exact am_intro (plainFor_of_name plX12) (fun _ _ => trivial) (Nat.le_of_ble_eq_true rfl) (fun x hl hc => by subst hl; exact j_sub (tX12_worked n d hc _ _ _ _ _ hf) (And.intro rfl (And.intro rfl (And.intro rfl (trivial)))))
set_option maxRecDepth 100000 in
def fX12_workOut_b165 (n d : Nat) (k12 : Int32 → Int32 → Int32 → Int32 → am_I → am_L → Option (Int32 × am_I × am_L)) (a1 : Int32) (a3 : Int32) (a4 : Int32) (a5 : Int32) (I : am_I) (L : am_L) : Option (Int32 × am_I × am_L) :=
  am_lt (a5 + (1 : Int32)) (fun v1 => k12 a1 a3 a4 v1 I L)

set_option maxRecDepth 100000 in
set_option maxHeartbeats 4000000 in
theorem tX12_workOut_b165 {x : am_X} (n d : Nat) (hc : am_ok x cX12_workOut yX12_workOut 6 (some .int) (d + 4) 0 0) {r : Int32} {I' : am_I} {L' : am_L} (k12 : Int32 → Int32 → Int32 → Int32 → am_I → am_L → Option (Int32 × am_I × am_L)) (hk12 : ∀ (a1 : Int32) (a3 : Int32) (a4 : Int32) (a5 : Int32) (I : am_I) (L : am_L), k12 a1 a3 a4 a5 I L = some (r, I', L') → am_J x (fun S => S = (some (.int r), KM, RM, I', L')) 12 [some (.ref 0), some (.int a1), none, some (.int a3), some (.int a4), some (.int a5)] [] KM RM I L 0 0) (a1 : Int32) (a3 : Int32) (a4 : Int32) (a5 : Int32) (I : am_I) (L : am_L) (hf : fX12_workOut_b165 n d k12 a1 a3 a4 a5 I L = some (r, I', L')) : am_J x (fun S => S = (some (.int r), KM, RM, I', L')) 165 [some (.ref 0), some (.int a1), none, some (.int a3), some (.int a4), some (.int a5)] [] KM RM I L 0 0 := by
  unfold fX12_workOut_b165 at hf
  refine j_iinc (w := (1 : Int32)) hc dX12_workOut_165 rfl ci_1 (Nat.le_of_ble_eq_true rfl) hf (fun v1 hf => ?_)
  refine j_goto (tgt := 12) hc dX12_workOut_168 rfl ?_
  exact j_sub (hk12 _ _ _ _ _ _ hf) (And.intro rfl (And.intro rfl (And.intro rfl (And.intro rfl (And.intro rfl (trivial))))))

set_option maxRecDepth 100000 in
def fX12_workOut_b83 (n d : Nat) (k12 : Int32 → Int32 → Int32 → Int32 → am_I → am_L → Option (Int32 × am_I × am_L)) (s1 : Int32) (s2 : Int32) (a1 : Int32) (a3 : Int32) (a4 : Int32) (a5 : Int32) (I : am_I) (L : am_L) : Option (Int32 × am_I × am_L) :=
  am_ck s1 80 (am_lt (am_up I 10 (s1).toNatClampNeg s2) (fun I1 => am_lt (a4 + (1 : Int32)) (fun v2 => fX12_workOut_b165 n d k12 a1 a3 v2 a5 I1 L)))

set_option maxRecDepth 100000 in
set_option maxHeartbeats 4000000 in
theorem tX12_workOut_b83 {x : am_X} (n d : Nat) (hc : am_ok x cX12_workOut yX12_workOut 6 (some .int) (d + 4) 0 0) {r : Int32} {I' : am_I} {L' : am_L} (k12 : Int32 → Int32 → Int32 → Int32 → am_I → am_L → Option (Int32 × am_I × am_L)) (hk12 : ∀ (a1 : Int32) (a3 : Int32) (a4 : Int32) (a5 : Int32) (I : am_I) (L : am_L), k12 a1 a3 a4 a5 I L = some (r, I', L') → am_J x (fun S => S = (some (.int r), KM, RM, I', L')) 12 [some (.ref 0), some (.int a1), none, some (.int a3), some (.int a4), some (.int a5)] [] KM RM I L 0 0) (s1 : Int32) (s2 : Int32) (a1 : Int32) (a3 : Int32) (a4 : Int32) (a5 : Int32) (I : am_I) (L : am_L) (hf : fX12_workOut_b83 n d k12 s1 s2 a1 a3 a4 a5 I L = some (r, I', L')) : am_J x (fun S => S = (some (.int r), KM, RM, I', L')) 83 [some (.ref 0), some (.int a1), none, some (.int a3), some (.int a4), some (.int a5)] [.int s2, .int s1, .ref 10] KM RM I L 0 0 := by
  unfold fX12_workOut_b83 at hf
  refine j_iastore (n := 80) hc dX12_workOut_83 kM_10 hf (fun I1 hf => ?_)
  refine j_iinc (w := (1 : Int32)) hc dX12_workOut_84 rfl ci_1 (Nat.le_of_ble_eq_true rfl) hf (fun v2 hf => ?_)
  refine j_goto (tgt := 165) hc dX12_workOut_87 rfl ?_
  exact j_sub (tX12_workOut_b165 n d hc k12 hk12 _ _ _ _ _ _ hf) (And.intro rfl (And.intro rfl (And.intro rfl (And.intro rfl (And.intro rfl (trivial))))))

set_option maxRecDepth 100000 in
def fX12_workOut_b45 (n d : Nat) (k12 : Int32 → Int32 → Int32 → Int32 → am_I → am_L → Option (Int32 × am_I × am_L)) (a1 : Int32) (a3 : Int32) (a4 : Int32) (a5 : Int32) (I : am_I) (L : am_L) : Option (Int32 × am_I × am_L) :=
  am_ck a5 2600 (am_lt (I 2 (a5).toNatClampNeg) (fun v1 => if v1 = 0 then
    (am_ck a5 2600 (am_lt (I 3 (a5).toNatClampNeg) (fun v4 => fX12_workOut_b83 n d k12 a4 v4 a1 a3 a4 a5 I L)))
    else
    (am_ck a5 2600 (am_lt (I 3 (a5).toNatClampNeg) (fun v2 => am_ck v2 6 (am_lt (I 9 (v2).toNatClampNeg) (fun v3 => fX12_workOut_b83 n d k12 a4 v3 a1 a3 a4 a5 I L)))))))

set_option maxRecDepth 100000 in
set_option maxHeartbeats 4000000 in
theorem tX12_workOut_b45 {x : am_X} (n d : Nat) (hc : am_ok x cX12_workOut yX12_workOut 6 (some .int) (d + 4) 0 0) {r : Int32} {I' : am_I} {L' : am_L} (k12 : Int32 → Int32 → Int32 → Int32 → am_I → am_L → Option (Int32 × am_I × am_L)) (hk12 : ∀ (a1 : Int32) (a3 : Int32) (a4 : Int32) (a5 : Int32) (I : am_I) (L : am_L), k12 a1 a3 a4 a5 I L = some (r, I', L') → am_J x (fun S => S = (some (.int r), KM, RM, I', L')) 12 [some (.ref 0), some (.int a1), none, some (.int a3), some (.int a4), some (.int a5)] [] KM RM I L 0 0) (a1 : Int32) (a3 : Int32) (a4 : Int32) (a5 : Int32) (I : am_I) (L : am_L) (hf : fX12_workOut_b45 n d k12 a1 a3 a4 a5 I L = some (r, I', L')) : am_J x (fun S => S = (some (.int r), KM, RM, I', L')) 45 [some (.ref 0), some (.int a1), none, some (.int a3), some (.int a4), some (.int a5)] [] KM RM I L 0 0 := by
  unfold fX12_workOut_b45 at hf
  refine j_aload_n hc dX12_workOut_45 rfl ?_
  refine j_getR (u := 10) hc dX12_workOut_46 fgM_X12_37_0 rM_0_16 ?_
  refine j_iload hc dX12_workOut_49 rfl ?_
  refine j_aload_n hc dX12_workOut_51 rfl ?_
  refine j_getR (u := 2) hc dX12_workOut_52 fgM_X12_13_0 rM_0_6 ?_
  refine j_iload hc dX12_workOut_55 rfl ?_
  refine j_iaload (n := 2600) hc dX12_workOut_57 kM_2 hf (fun v1 hf => ?_)
  refine j_if_ne (tgt := 71) hc dX12_workOut_58 rfl hf (fun hf => ?_) (fun hf => ?_)
  · refine j_aload_n hc dX12_workOut_71 rfl ?_
    refine j_getR (u := 9) hc dX12_workOut_72 fgM_X12_34_0 rM_0_15 ?_
    refine j_aload_n hc dX12_workOut_75 rfl ?_
    refine j_getR (u := 3) hc dX12_workOut_76 fgM_X12_16_0 rM_0_7 ?_
    refine j_iload hc dX12_workOut_79 rfl ?_
    refine j_iaload (n := 2600) hc dX12_workOut_81 kM_3 hf (fun v2 hf => ?_)
    refine j_iaload (n := 6) hc dX12_workOut_82 kM_9 hf (fun v3 hf => ?_)
    exact j_sub (tX12_workOut_b83 n d hc k12 hk12 _ _ _ _ _ _ _ _ hf) (And.intro rfl (And.intro rfl (And.intro rfl (And.intro rfl (And.intro rfl (trivial))))))
  · refine j_aload_n hc dX12_workOut_61 rfl ?_
    refine j_getR (u := 3) hc dX12_workOut_62 fgM_X12_16_0 rM_0_7 ?_
    refine j_iload hc dX12_workOut_65 rfl ?_
    refine j_iaload (n := 2600) hc dX12_workOut_67 kM_3 hf (fun v4 hf => ?_)
    refine j_goto (tgt := 83) hc dX12_workOut_68 rfl ?_
    exact j_sub (tX12_workOut_b83 n d hc k12 hk12 _ _ _ _ _ _ _ _ hf) (And.intro rfl (And.intro rfl (And.intro rfl (And.intro rfl (And.intro rfl (trivial))))))

set_option maxRecDepth 100000 in
def fX12_workOut_b12w (n d : Nat) (k12 : Int32 → Int32 → Int32 → Int32 → am_I → am_L → Option (Int32 × am_I × am_L)) (a1 : Int32) (a3 : Int32) (a4 : Int32) (a5 : Int32) (I : am_I) (L : am_L) : Option (Int32 × am_I × am_L) :=
  if (((520 : Int32) * a1) + a3) ≤ a5 then
    (am_ck (0 : Int32) 80 (am_lt (I 10 ((0 : Int32)).toNatClampNeg) (fun v1 => some (v1, I, L))))
    else
    (am_ck a5 2600 (am_lt (I 2 (a5).toNatClampNeg) (fun v2 => if v2 = 0 then
      (fX12_workOut_b45 n d k12 a1 a3 a4 a5 I L)
      else
      (am_ck a5 2600 (am_lt (I 2 (a5).toNatClampNeg) (fun v3 => if v3 = (1 : Int32) then
        (fX12_workOut_b45 n d k12 a1 a3 a4 a5 I L)
        else
        (am_ck a5 2600 (am_lt (I 2 (a5).toNatClampNeg) (fun v4 => if v4 = (9 : Int32) then
          (am_ck (a4 - (1 : Int32)) 80 (am_lt (I 10 ((a4 - (1 : Int32))).toNatClampNeg) (fun v11 => am_ck (a4 - (1 : Int32)) 80 (am_lt (am_up I 10 ((a4 - (1 : Int32))).toNatClampNeg ((1 : Int32) - v11)) (fun I12 => fX12_workOut_b165 n d k12 a1 a3 a4 a5 I12 L)))))
          else
          (am_lt (a4 + (-1 : Int32)) (fun v5 => am_ck a5 2600 (am_lt (I 2 (a5).toNatClampNeg) (fun v6 => am_ck (v5 - (1 : Int32)) 80 (am_lt (I 10 ((v5 - (1 : Int32))).toNatClampNeg) (fun v7 => am_ck v5 80 (am_lt (I 10 (v5).toNatClampNeg) (fun v8 => am_b3 (fX12_worked n d v6 v7.toInt64 v8.toInt64 I L) (fun v9 I9 L9 => am_ck (v5 - (1 : Int32)) 80 (am_lt (am_up I9 10 ((v5 - (1 : Int32))).toNatClampNeg v9) (fun I10 => fX12_workOut_b165 n d k12 a1 a3 v5 a5 I10 L9))))))))))))))))))))

set_option maxRecDepth 100000 in
set_option maxHeartbeats 4000000 in
theorem tX12_workOut_b12w {x : am_X} (n d : Nat) (hc : am_ok x cX12_workOut yX12_workOut 6 (some .int) (d + 4) 0 0) {r : Int32} {I' : am_I} {L' : am_L} (k12 : Int32 → Int32 → Int32 → Int32 → am_I → am_L → Option (Int32 × am_I × am_L)) (hk12 : ∀ (a1 : Int32) (a3 : Int32) (a4 : Int32) (a5 : Int32) (I : am_I) (L : am_L), k12 a1 a3 a4 a5 I L = some (r, I', L') → am_J x (fun S => S = (some (.int r), KM, RM, I', L')) 12 [some (.ref 0), some (.int a1), none, some (.int a3), some (.int a4), some (.int a5)] [] KM RM I L 0 0) (a1 : Int32) (a3 : Int32) (a4 : Int32) (a5 : Int32) (I : am_I) (L : am_L) (hf : fX12_workOut_b12w n d k12 a1 a3 a4 a5 I L = some (r, I', L')) : am_J x (fun S => S = (some (.int r), KM, RM, I', L')) 12 [some (.ref 0), some (.int a1), none, some (.int a3), some (.int a4), some (.int a5)] [] KM RM I L 0 0 := by
  unfold fX12_workOut_b12w at hf
  refine j_iload hc dX12_workOut_12 rfl ?_
  refine j_sipush (v := (520 : Int32)) hc dX12_workOut_14 cs_520 ?_
  refine j_iload_n hc dX12_workOut_17 rfl ?_
  refine j_imul hc dX12_workOut_18 ?_
  refine j_iload_n hc dX12_workOut_19 rfl ?_
  refine j_iadd hc dX12_workOut_20 ?_
  refine j_icmp_ge (tgt := 171) hc dX12_workOut_21 rfl hf (fun hf => ?_) (fun hf => ?_)
  · refine j_aload_n hc dX12_workOut_171 rfl ?_
    refine j_getR (u := 10) hc dX12_workOut_172 fgM_X12_37_0 rM_0_16 ?_
    refine j_iconst (v := (0 : Int32)) hc dX12_workOut_175 ci_0 ?_
    refine j_iaload (n := 80) hc dX12_workOut_176 kM_10 hf (fun v1 hf => ?_)
    exact j_ireturn hc dX12_workOut_177 rfl rfl hf
  · refine j_aload_n hc dX12_workOut_24 rfl ?_
    refine j_getR (u := 2) hc dX12_workOut_25 fgM_X12_13_0 rM_0_6 ?_
    refine j_iload hc dX12_workOut_28 rfl ?_
    refine j_iaload (n := 2600) hc dX12_workOut_30 kM_2 hf (fun v2 hf => ?_)
    refine j_if_eq (tgt := 45) hc dX12_workOut_31 rfl hf (fun hf => ?_) (fun hf => ?_)
    · exact j_sub (tX12_workOut_b45 n d hc k12 hk12 _ _ _ _ _ _ hf) (And.intro rfl (And.intro rfl (And.intro rfl (And.intro rfl (And.intro rfl (trivial))))))
    · refine j_aload_n hc dX12_workOut_34 rfl ?_
      refine j_getR (u := 2) hc dX12_workOut_35 fgM_X12_13_0 rM_0_6 ?_
      refine j_iload hc dX12_workOut_38 rfl ?_
      refine j_iaload (n := 2600) hc dX12_workOut_40 kM_2 hf (fun v3 hf => ?_)
      refine j_iconst (v := (1 : Int32)) hc dX12_workOut_41 ci_1 ?_
      refine j_icmp_ne (tgt := 90) hc dX12_workOut_42 rfl hf (fun hf => ?_) (fun hf => ?_)
      · refine j_aload_n hc dX12_workOut_90 rfl ?_
        refine j_getR (u := 2) hc dX12_workOut_91 fgM_X12_13_0 rM_0_6 ?_
        refine j_iload hc dX12_workOut_94 rfl ?_
        refine j_iaload (n := 2600) hc dX12_workOut_96 kM_2 hf (fun v4 hf => ?_)
        refine j_bipush (v := (9 : Int32)) hc dX12_workOut_97 cb_9 ?_
        refine j_icmp_ne (tgt := 125) hc dX12_workOut_99 rfl hf (fun hf => ?_) (fun hf => ?_)
        · refine j_iinc (w := (-1 : Int32)) hc dX12_workOut_125 rfl ci_m1 (Nat.le_of_ble_eq_true rfl) hf (fun v5 hf => ?_)
          refine j_aload_n hc dX12_workOut_128 rfl ?_
          refine j_getR (u := 10) hc dX12_workOut_129 fgM_X12_37_0 rM_0_16 ?_
          refine j_iload hc dX12_workOut_132 rfl ?_
          refine j_iconst (v := (1 : Int32)) hc dX12_workOut_134 ci_1 ?_
          refine j_isub hc dX12_workOut_135 ?_
          refine j_aload_n hc dX12_workOut_136 rfl ?_
          refine j_getR (u := 2) hc dX12_workOut_137 fgM_X12_13_0 rM_0_6 ?_
          refine j_iload hc dX12_workOut_140 rfl ?_
          refine j_iaload (n := 2600) hc dX12_workOut_142 kM_2 hf (fun v6 hf => ?_)
          refine j_aload_n hc dX12_workOut_143 rfl ?_
          refine j_getR (u := 10) hc dX12_workOut_144 fgM_X12_37_0 rM_0_16 ?_
          refine j_iload hc dX12_workOut_147 rfl ?_
          refine j_iconst (v := (1 : Int32)) hc dX12_workOut_149 ci_1 ?_
          refine j_isub hc dX12_workOut_150 ?_
          refine j_iaload (n := 80) hc dX12_workOut_151 kM_10 hf (fun v7 hf => ?_)
          refine j_i2l hc dX12_workOut_152 ?_
          refine j_aload_n hc dX12_workOut_153 rfl ?_
          refine j_getR (u := 10) hc dX12_workOut_154 fgM_X12_37_0 rM_0_16 ?_
          refine j_iload hc dX12_workOut_157 rfl ?_
          refine j_iaload (n := 80) hc dX12_workOut_159 kM_10 hf (fun v8 hf => ?_)
          refine j_i2l hc dX12_workOut_160 ?_
          refine j_callSI (As := [.int v6, .long v7.toInt64, .long v8.toInt64]) hc dX12_workOut_161 kw_1792 mX12_worked  rfl (by omega) (Nat.le_of_ble_eq_true rfl) (Nat.le_of_ble_eq_true rfl) ⟨Nat.le_refl _, Nat.le_refl _⟩ hf (fun v I' L' h => qX12_worked x.2.1 n d v6 v7.toInt64 v8.toInt64 I L v I' L' h) (fun v9 I9 L9 hf => ?_)
          refine j_iastore (n := 80) hc dX12_workOut_164 kM_10 hf (fun I10 hf => ?_)
          exact j_sub (tX12_workOut_b165 n d hc k12 hk12 _ _ _ _ _ _ hf) (And.intro rfl (And.intro rfl (And.intro rfl (And.intro rfl (And.intro rfl (trivial))))))
        · refine j_aload_n hc dX12_workOut_102 rfl ?_
          refine j_getR (u := 10) hc dX12_workOut_103 fgM_X12_37_0 rM_0_16 ?_
          refine j_iload hc dX12_workOut_106 rfl ?_
          refine j_iconst (v := (1 : Int32)) hc dX12_workOut_108 ci_1 ?_
          refine j_isub hc dX12_workOut_109 ?_
          refine j_iconst (v := (1 : Int32)) hc dX12_workOut_110 ci_1 ?_
          refine j_aload_n hc dX12_workOut_111 rfl ?_
          refine j_getR (u := 10) hc dX12_workOut_112 fgM_X12_37_0 rM_0_16 ?_
          refine j_iload hc dX12_workOut_115 rfl ?_
          refine j_iconst (v := (1 : Int32)) hc dX12_workOut_117 ci_1 ?_
          refine j_isub hc dX12_workOut_118 ?_
          refine j_iaload (n := 80) hc dX12_workOut_119 kM_10 hf (fun v11 hf => ?_)
          refine j_isub hc dX12_workOut_120 ?_
          refine j_iastore (n := 80) hc dX12_workOut_121 kM_10 hf (fun I12 hf => ?_)
          refine j_goto (tgt := 165) hc dX12_workOut_122 rfl ?_
          exact j_sub (tX12_workOut_b165 n d hc k12 hk12 _ _ _ _ _ _ hf) (And.intro rfl (And.intro rfl (And.intro rfl (And.intro rfl (And.intro rfl (trivial))))))
      · exact j_sub (tX12_workOut_b45 n d hc k12 hk12 _ _ _ _ _ _ hf) (And.intro rfl (And.intro rfl (And.intro rfl (And.intro rfl (And.intro rfl (trivial))))))

def fX12_workOut_b12 (n d : Nat) : Nat → Int32 → Int32 → Int32 → Int32 → am_I → am_L → Option (Int32 × am_I × am_L)
  | 0 => fun _ _ _ _ _ _ => none
  | m + 1 => fX12_workOut_b12w n d  (fX12_workOut_b12 n d m)

set_option maxRecDepth 100000 in
theorem tX12_workOut_b12 {x : am_X} (n d : Nat) (hc : am_ok x cX12_workOut yX12_workOut 6 (some .int) (d + 4) 0 0) {r : Int32} {I' : am_I} {L' : am_L} (m : Nat) : ∀ (a1 : Int32) (a3 : Int32) (a4 : Int32) (a5 : Int32) (I : am_I) (L : am_L) (hf : fX12_workOut_b12 n d m a1 a3 a4 a5 I L = some (r, I', L')), am_J x (fun S => S = (some (.int r), KM, RM, I', L')) 12 [some (.ref 0), some (.int a1), none, some (.int a3), some (.int a4), some (.int a5)] [] KM RM I L 0 0 := by
  induction m with
  | zero => intro a1 a3 a4 a5 I L hf; exact (Option.some_ne_none _ hf.symm).elim
  | succ m ih => intro a1 a3 a4 a5 I L hf; exact tX12_workOut_b12w n d hc (fX12_workOut_b12 n d m) ih a1 a3 a4 a5 I L hf

set_option maxRecDepth 100000 in
def fX12_workOut (n d : Nat) (a1 : Int32) (a2 : Int32) (a3 : Int32) (I : am_I) (L : am_L) : Option (Int32 × am_I × am_L) :=
  am_lt (0 : Int32) (fun v1 => am_lt (((520 : Int32) * a1) + a2) (fun v2 => fX12_workOut_b12 n d n a1 a3 v1 v2 I L))

set_option maxRecDepth 100000 in
set_option maxHeartbeats 4000000 in
theorem tX12_workOut {x : am_X} (n d : Nat) (hc : am_ok x cX12_workOut yX12_workOut 6 (some .int) (d + 4) 0 0) {r : Int32} {I' : am_I} {L' : am_L} (a1 : Int32) (a2 : Int32) (a3 : Int32) (I : am_I) (L : am_L) (hf : fX12_workOut n d a1 a2 a3 I L = some (r, I', L')) : am_J x (fun S => S = (some (.int r), KM, RM, I', L')) 0 [some (.ref 0), some (.int a1), some (.int a2), some (.int a3), none, none] [] KM RM I L 0 0 := by
  unfold fX12_workOut at hf
  refine j_iconst (v := (0 : Int32)) hc dX12_workOut_0 ci_0 ?_
  refine j_istore hc dX12_workOut_1 (Nat.le_of_ble_eq_true rfl) hf (fun v1 hf => ?_)
  refine j_sipush (v := (520 : Int32)) hc dX12_workOut_3 cs_520 ?_
  refine j_iload_n hc dX12_workOut_6 rfl ?_
  refine j_imul hc dX12_workOut_7 ?_
  refine j_iload_n hc dX12_workOut_8 rfl ?_
  refine j_iadd hc dX12_workOut_9 ?_
  refine j_istore hc dX12_workOut_10 (Nat.le_of_ble_eq_true rfl) hf (fun v2 hf => ?_)
  exact j_sub (tX12_workOut_b12 n d hc n _ _ _ _ _ _ hf) (And.intro rfl (And.intro rfl (And.intro rfl (And.intro rfl (And.intro rfl (trivial))))))

set_option maxRecDepth 100000 in
theorem qX12_workOut (l : Launch) (n d : Nat) (a1 : Int32) (a2 : Int32) (a3 : Int32) (I : am_I) (L : am_L) (r : Int32) (I' : am_I) (L' : am_L) (hf : fX12_workOut n d a1 a2 a3 I L = some (r, I', L')) : am_C l yX12_workOut cX12_workOut 6 (some .int) (d + 4) [.ref 0, .int a1, .int a2, .int a3] KM RM I L (some (.int r)) I' L' := by
  exact am_intro (plainFor_of_name plX12) (fun _ _ => trivial) (Nat.le_of_ble_eq_true rfl) (fun x hl hc => by subst hl; exact j_sub (tX12_workOut n d hc _ _ _ _ _ hf) (And.intro rfl (And.intro rfl (And.intro rfl (And.intro rfl (trivial))))))
set_option maxRecDepth 100000 in
def fX12_worthOf_b57 (n d : Nat) (a1 : Int32) (a2 : Int32) (I : am_I) (L : am_L) : Option (Int32 × am_I × am_L) :=
  am_ck a2 700 (am_lt (I 7 (a2).toNatClampNeg) (fun v1 => am_ck a2 700 (am_lt (I 8 (a2).toNatClampNeg) (fun v2 => am_b3 (fX12_workOut n d a1 v1 v2 I L) (fun v3 I3 L3 => some (v3, I3, L3))))))

set_option maxRecDepth 100000 in
set_option maxHeartbeats 4000000 in
theorem tX12_worthOf_b57 {x : am_X} (n d : Nat) (hc : am_ok x cX12_worthOf yX12_worthOf 3 (some .int) (d + 5) 0 0) {r : Int32} {I' : am_I} {L' : am_L} (a1 : Int32) (a2 : Int32) (I : am_I) (L : am_L) (hf : fX12_worthOf_b57 n d a1 a2 I L = some (r, I', L')) : am_J x (fun S => S = (some (.int r), KM, RM, I', L')) 57 [some (.ref 0), some (.int a1), some (.int a2)] [] KM RM I L 0 0 := by
  unfold fX12_worthOf_b57 at hf
  refine j_aload_n hc dX12_worthOf_57 rfl ?_
  refine j_iload_n hc dX12_worthOf_58 rfl ?_
  refine j_aload_n hc dX12_worthOf_59 rfl ?_
  refine j_getR (u := 7) hc dX12_worthOf_60 fgM_X12_28_0 rM_0_11 ?_
  refine j_iload_n hc dX12_worthOf_63 rfl ?_
  refine j_iaload (n := 700) hc dX12_worthOf_64 kM_7 hf (fun v1 hf => ?_)
  refine j_aload_n hc dX12_worthOf_65 rfl ?_
  refine j_getR (u := 8) hc dX12_worthOf_66 fgM_X12_31_0 rM_0_12 ?_
  refine j_iload_n hc dX12_worthOf_69 rfl ?_
  refine j_iaload (n := 700) hc dX12_worthOf_70 kM_8 hf (fun v2 hf => ?_)
  refine j_callVI (t := 0) (As := [.int a1, .int v1, .int v2]) hc dX12_worthOf_71 kw_1788 mX12_workOut kM_0 clX12 rfl (by omega) (Nat.le_of_ble_eq_true rfl) (Nat.le_of_ble_eq_true rfl) ⟨Nat.le_refl _, Nat.le_refl _⟩ hf (fun v I' L' h => qX12_workOut x.2.1 n d a1 v1 v2 I L v I' L' h) (fun v3 I3 L3 hf => ?_)
  exact j_ireturn hc dX12_worthOf_74 rfl rfl hf

set_option maxRecDepth 100000 in
def fX12_worthOf_b6w (n d : Nat) (k6 : Int32 → Int32 → am_I → am_L → Option (Int32 × am_I × am_L)) (a1 : Int32) (a2 : Int32) (I : am_I) (L : am_L) : Option (Int32 × am_I × am_L) :=
  am_ck a1 5 (am_lt (I 5 (a1).toNatClampNeg) (fun v1 => if (((140 : Int32) * a1) + v1) ≤ a2 then
    (some ((0 : Int32), I, L))
    else
    (am_ck a2 700 (am_lt (I 6 (a2).toNatClampNeg) (fun v2 => am_ck a2 700 (am_lt (I 7 (a2).toNatClampNeg) (fun v3 => if v2 = v3 then
      (fX12_worthOf_b57 n d a1 a2 I L)
      else
      (am_ck a2 700 (am_lt (I 6 (a2).toNatClampNeg) (fun v4 => am_ck a2 700 (am_lt (I 7 (a2).toNatClampNeg) (fun v5 => am_b3 (fX12_workOut n d a1 v4 v5 I L) (fun v6 I6 L6 => if v6 = 0 then
        (am_lt (a2 + (1 : Int32)) (fun v7 => k6 a1 v7 I6 L6))
        else
        (fX12_worthOf_b57 n d a1 a2 I6 L6))))))))))))))

set_option maxRecDepth 100000 in
set_option maxHeartbeats 4000000 in
theorem tX12_worthOf_b6w {x : am_X} (n d : Nat) (hc : am_ok x cX12_worthOf yX12_worthOf 3 (some .int) (d + 5) 0 0) {r : Int32} {I' : am_I} {L' : am_L} (k6 : Int32 → Int32 → am_I → am_L → Option (Int32 × am_I × am_L)) (hk6 : ∀ (a1 : Int32) (a2 : Int32) (I : am_I) (L : am_L), k6 a1 a2 I L = some (r, I', L') → am_J x (fun S => S = (some (.int r), KM, RM, I', L')) 6 [some (.ref 0), some (.int a1), some (.int a2)] [] KM RM I L 0 0) (a1 : Int32) (a2 : Int32) (I : am_I) (L : am_L) (hf : fX12_worthOf_b6w n d k6 a1 a2 I L = some (r, I', L')) : am_J x (fun S => S = (some (.int r), KM, RM, I', L')) 6 [some (.ref 0), some (.int a1), some (.int a2)] [] KM RM I L 0 0 := by
  unfold fX12_worthOf_b6w at hf
  refine j_iload_n hc dX12_worthOf_6 rfl ?_
  refine j_sipush (v := (140 : Int32)) hc dX12_worthOf_7 cs_140 ?_
  refine j_iload_n hc dX12_worthOf_10 rfl ?_
  refine j_imul hc dX12_worthOf_11 ?_
  refine j_aload_n hc dX12_worthOf_12 rfl ?_
  refine j_getR (u := 5) hc dX12_worthOf_13 fgM_X12_22_0 rM_0_9 ?_
  refine j_iload_n hc dX12_worthOf_16 rfl ?_
  refine j_iaload (n := 5) hc dX12_worthOf_17 kM_5 hf (fun v1 hf => ?_)
  refine j_iadd hc dX12_worthOf_18 ?_
  refine j_icmp_ge (tgt := 81) hc dX12_worthOf_19 rfl hf (fun hf => ?_) (fun hf => ?_)
  · refine j_iconst (v := (0 : Int32)) hc dX12_worthOf_81 ci_0 ?_
    exact j_ireturn hc dX12_worthOf_82 rfl rfl hf
  · refine j_aload_n hc dX12_worthOf_22 rfl ?_
    refine j_getR (u := 6) hc dX12_worthOf_23 fgM_X12_25_0 rM_0_10 ?_
    refine j_iload_n hc dX12_worthOf_26 rfl ?_
    refine j_iaload (n := 700) hc dX12_worthOf_27 kM_6 hf (fun v2 hf => ?_)
    refine j_aload_n hc dX12_worthOf_28 rfl ?_
    refine j_getR (u := 7) hc dX12_worthOf_29 fgM_X12_28_0 rM_0_11 ?_
    refine j_iload_n hc dX12_worthOf_32 rfl ?_
    refine j_iaload (n := 700) hc dX12_worthOf_33 kM_7 hf (fun v3 hf => ?_)
    refine j_icmp_eq (tgt := 57) hc dX12_worthOf_34 rfl hf (fun hf => ?_) (fun hf => ?_)
    · exact j_sub (tX12_worthOf_b57 n d hc _ _ _ _ hf) (And.intro rfl (And.intro rfl (And.intro rfl (trivial))))
    · refine j_aload_n hc dX12_worthOf_37 rfl ?_
      refine j_iload_n hc dX12_worthOf_38 rfl ?_
      refine j_aload_n hc dX12_worthOf_39 rfl ?_
      refine j_getR (u := 6) hc dX12_worthOf_40 fgM_X12_25_0 rM_0_10 ?_
      refine j_iload_n hc dX12_worthOf_43 rfl ?_
      refine j_iaload (n := 700) hc dX12_worthOf_44 kM_6 hf (fun v4 hf => ?_)
      refine j_aload_n hc dX12_worthOf_45 rfl ?_
      refine j_getR (u := 7) hc dX12_worthOf_46 fgM_X12_28_0 rM_0_11 ?_
      refine j_iload_n hc dX12_worthOf_49 rfl ?_
      refine j_iaload (n := 700) hc dX12_worthOf_50 kM_7 hf (fun v5 hf => ?_)
      refine j_callVI (t := 0) (As := [.int a1, .int v4, .int v5]) hc dX12_worthOf_51 kw_1788 mX12_workOut kM_0 clX12 rfl (by omega) (Nat.le_of_ble_eq_true rfl) (Nat.le_of_ble_eq_true rfl) ⟨Nat.le_refl _, Nat.le_refl _⟩ hf (fun v I' L' h => qX12_workOut x.2.1 n d a1 v4 v5 I L v I' L' h) (fun v6 I6 L6 hf => ?_)
      refine j_if_eq (tgt := 75) hc dX12_worthOf_54 rfl hf (fun hf => ?_) (fun hf => ?_)
      · refine j_iinc (w := (1 : Int32)) hc dX12_worthOf_75 rfl ci_1 (Nat.le_of_ble_eq_true rfl) hf (fun v7 hf => ?_)
        refine j_goto (tgt := 6) hc dX12_worthOf_78 rfl ?_
        exact j_sub (hk6 _ _ _ _ hf) (And.intro rfl (And.intro rfl (And.intro rfl (trivial))))
      · exact j_sub (tX12_worthOf_b57 n d hc _ _ _ _ hf) (And.intro rfl (And.intro rfl (And.intro rfl (trivial))))

def fX12_worthOf_b6 (n d : Nat) : Nat → Int32 → Int32 → am_I → am_L → Option (Int32 × am_I × am_L)
  | 0 => fun _ _ _ _ => none
  | m + 1 => fX12_worthOf_b6w n d  (fX12_worthOf_b6 n d m)

set_option maxRecDepth 100000 in
theorem tX12_worthOf_b6 {x : am_X} (n d : Nat) (hc : am_ok x cX12_worthOf yX12_worthOf 3 (some .int) (d + 5) 0 0) {r : Int32} {I' : am_I} {L' : am_L} (m : Nat) : ∀ (a1 : Int32) (a2 : Int32) (I : am_I) (L : am_L) (hf : fX12_worthOf_b6 n d m a1 a2 I L = some (r, I', L')), am_J x (fun S => S = (some (.int r), KM, RM, I', L')) 6 [some (.ref 0), some (.int a1), some (.int a2)] [] KM RM I L 0 0 := by
  induction m with
  | zero => intro a1 a2 I L hf; exact (Option.some_ne_none _ hf.symm).elim
  | succ m ih => intro a1 a2 I L hf; exact tX12_worthOf_b6w n d hc (fX12_worthOf_b6 n d m) ih a1 a2 I L hf

set_option maxRecDepth 100000 in
def fX12_worthOf (n d : Nat) (a1 : Int32) (I : am_I) (L : am_L) : Option (Int32 × am_I × am_L) :=
  am_lt ((140 : Int32) * a1) (fun v1 => fX12_worthOf_b6 n d n a1 v1 I L)

set_option maxRecDepth 100000 in
set_option maxHeartbeats 4000000 in
theorem tX12_worthOf {x : am_X} (n d : Nat) (hc : am_ok x cX12_worthOf yX12_worthOf 3 (some .int) (d + 5) 0 0) {r : Int32} {I' : am_I} {L' : am_L} (a1 : Int32) (I : am_I) (L : am_L) (hf : fX12_worthOf n d a1 I L = some (r, I', L')) : am_J x (fun S => S = (some (.int r), KM, RM, I', L')) 0 [some (.ref 0), some (.int a1), none] [] KM RM I L 0 0 := by
  unfold fX12_worthOf at hf
  refine j_sipush (v := (140 : Int32)) hc dX12_worthOf_0 cs_140 ?_
  refine j_iload_n hc dX12_worthOf_3 rfl ?_
  refine j_imul hc dX12_worthOf_4 ?_
  refine j_istore_n hc dX12_worthOf_5 (Nat.le_of_ble_eq_true rfl) hf (fun v1 hf => ?_)
  exact j_sub (tX12_worthOf_b6 n d hc n _ _ _ _ hf) (And.intro rfl (And.intro rfl (And.intro rfl (trivial))))

set_option maxRecDepth 100000 in
theorem qX12_worthOf (l : Launch) (n d : Nat) (a1 : Int32) (I : am_I) (L : am_L) (r : Int32) (I' : am_I) (L' : am_L) (hf : fX12_worthOf n d a1 I L = some (r, I', L')) : am_C l yX12_worthOf cX12_worthOf 3 (some .int) (d + 5) [.ref 0, .int a1] KM RM I L (some (.int r)) I' L' := by
  exact am_intro (plainFor_of_name plX12) (fun _ _ => trivial) (Nat.le_of_ble_eq_true rfl) (fun x hl hc => by subst hl; exact j_sub (tX12_worthOf n d hc _ _ _ hf) (And.intro rfl (And.intro rfl (trivial))))
