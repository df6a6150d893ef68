set_option maxRecDepth 100000 in
def fX8_bytesIn_b25 (n d : Nat) (k5 : Int32 → Int32 → Int32 → am_I → am_L → Option (Int32 × am_I × am_L)) (s0 : Int32) (s1 : Int32) (a0 : Int32) (a2 : Int32) (I : am_I) (L : am_L) : Option (Int32 × am_I × am_L) :=
  am_lt (s0 + s1) (fun v1 => am_lt (a2 + (-8 : Int32)) (fun v2 => k5 a0 v1 v2 I L))

set_option maxRecDepth 100000 in
set_option maxHeartbeats 4000000 in
theorem tX8_bytesIn_b25 {x : am_X} {al : Bool} (n d : Nat) (hc : am_ok x cX8_bytesIn yX8_bytesIn 3 (some .int) (d + 1) 0 0) {r : Int32} {I' : am_I} {L' : am_L} (k5 : Int32 → Int32 → Int32 → am_I → am_L → Option (Int32 × am_I × am_L)) (hk5 : ∀ (a0 : Int32) (a1 : Int32) (a2 : Int32) (I : am_I) (L : am_L), k5 a0 a1 a2 I L = some (r, I', L') → am_J x (fun S => S = (some (.int r), (KC al), (RC al), I', L')) 5 [some (.int a0), some (.int a1), some (.int a2)] [] (KC al) (RC al) I L 0 0) (s0 : Int32) (s1 : Int32) (a0 : Int32) (a2 : Int32) (I : am_I) (L : am_L) (hf : fX8_bytesIn_b25 n d k5 s0 s1 a0 a2 I L = some (r, I', L')) : am_J x (fun S => S = (some (.int r), (KC al), (RC al), I', L')) 25 [some (.int a0), none, some (.int a2)] [.int s1, .int s0] (KC al) (RC al) I L 0 0 := by
  unfold fX8_bytesIn_b25 at hf
  refine j_iadd hc dX8_bytesIn_25 ?_
  refine j_istore_n hc dX8_bytesIn_26 (Nat.le_of_ble_eq_true rfl) hf (fun v1 hf => ?_)
  refine j_iinc (w := (-8 : Int32)) hc dX8_bytesIn_27 rfl ci_m8 (Nat.le_of_ble_eq_true rfl) hf (fun v2 hf => ?_)
  refine j_goto (tgt := 5) hc dX8_bytesIn_30 rfl ?_
  exact j_sub (hk5 _ _ _ _ _ hf) (And.intro rfl (And.intro rfl (And.intro rfl (trivial))))

set_option maxRecDepth 100000 in
def fX8_bytesIn_b5w (n d : Nat) (k5 : Int32 → Int32 → Int32 → am_I → am_L → Option (Int32 × am_I × am_L)) (a0 : Int32) (a1 : Int32) (a2 : Int32) (I : am_I) (L : am_L) : Option (Int32 × am_I × am_L) :=
  if a2 < 0 then
    (some (a1, I, L))
    else
    (if ((a0.toUInt32 >>> (a2.toUInt32 &&& Int32.toUInt32 31)).toInt32 &&& (255 : Int32)) = 0 then
      (fX8_bytesIn_b25 n d k5 a1 (0 : Int32) a0 a2 I L)
      else
      (fX8_bytesIn_b25 n d k5 a1 (1 : Int32) a0 a2 I L))

set_option maxRecDepth 100000 in
set_option maxHeartbeats 4000000 in
theorem tX8_bytesIn_b5w {x : am_X} {al : Bool} (n d : Nat) (hc : am_ok x cX8_bytesIn yX8_bytesIn 3 (some .int) (d + 1) 0 0) {r : Int32} {I' : am_I} {L' : am_L} (k5 : Int32 → Int32 → Int32 → am_I → am_L → Option (Int32 × am_I × am_L)) (hk5 : ∀ (a0 : Int32) (a1 : Int32) (a2 : Int32) (I : am_I) (L : am_L), k5 a0 a1 a2 I L = some (r, I', L') → am_J x (fun S => S = (some (.int r), (KC al), (RC al), I', L')) 5 [some (.int a0), some (.int a1), some (.int a2)] [] (KC al) (RC al) I L 0 0) (a0 : Int32) (a1 : Int32) (a2 : Int32) (I : am_I) (L : am_L) (hf : fX8_bytesIn_b5w n d k5 a0 a1 a2 I L = some (r, I', L')) : am_J x (fun S => S = (some (.int r), (KC al), (RC al), I', L')) 5 [some (.int a0), some (.int a1), some (.int a2)] [] (KC al) (RC al) I L 0 0 := by
  unfold fX8_bytesIn_b5w at hf
  refine j_iload_n hc dX8_bytesIn_5 rfl ?_
  refine j_if_lt (tgt := 33) hc dX8_bytesIn_6 rfl hf (fun hf => ?_) (fun hf => ?_)
  · refine j_iload_n hc dX8_bytesIn_33 rfl ?_
    exact j_ireturn hc dX8_bytesIn_34 rfl rfl hf
  · refine j_iload_n hc dX8_bytesIn_9 rfl ?_
    refine j_iload_n hc dX8_bytesIn_10 rfl ?_
    refine j_iload_n hc dX8_bytesIn_11 rfl ?_
    refine j_iushr hc dX8_bytesIn_12 ?_
    refine j_sipush (v := (255 : Int32)) hc dX8_bytesIn_13 cs_255 ?_
    refine j_iand hc dX8_bytesIn_16 ?_
    refine j_if_eq (tgt := 24) hc dX8_bytesIn_17 rfl hf (fun hf => ?_) (fun hf => ?_)
    · refine j_iconst (v := (0 : Int32)) hc dX8_bytesIn_24 ci_0 ?_
      exact j_sub (tX8_bytesIn_b25 n d hc k5 hk5 _ _ _ _ _ _ hf) (And.intro rfl (And.intro rfl (trivial)))
    · refine j_iconst (v := (1 : Int32)) hc dX8_bytesIn_20 ci_1 ?_
      refine j_goto (tgt := 25) hc dX8_bytesIn_21 rfl ?_
      exact j_sub (tX8_bytesIn_b25 n d hc k5 hk5 _ _ _ _ _ _ hf) (And.intro rfl (And.intro rfl (trivial)))

def fX8_bytesIn_b5 (n d : Nat) : Nat → Int32 → Int32 → Int32 → am_I → am_L → Option (Int32 × am_I × am_L)
  | 0 => fun _ _ _ _ _ => none
  | m + 1 => fX8_bytesIn_b5w n d  (fX8_bytesIn_b5 n d m)

set_option maxRecDepth 100000 in
theorem tX8_bytesIn_b5 {x : am_X} {al : Bool} (n d : Nat) (hc : am_ok x cX8_bytesIn yX8_bytesIn 3 (some .int) (d + 1) 0 0) {r : Int32} {I' : am_I} {L' : am_L} (m : Nat) : ∀ (a0 : Int32) (a1 : Int32) (a2 : Int32) (I : am_I) (L : am_L) (hf : fX8_bytesIn_b5 n d m a0 a1 a2 I L = some (r, I', L')), am_J x (fun S => S = (some (.int r), (KC al), (RC al), I', L')) 5 [some (.int a0), some (.int a1), some (.int a2)] [] (KC al) (RC al) I L 0 0 := by
  induction m with
  | zero => intro a0 a1 a2 I L hf; exact (Option.some_ne_none _ hf.symm).elim
  | succ m ih => intro a0 a1 a2 I L hf; exact tX8_bytesIn_b5w n d hc (fX8_bytesIn_b5 n d m) ih a0 a1 a2 I L hf

set_option maxRecDepth 100000 in
def fX8_bytesIn (n d : Nat) (a0 : Int32) (I : am_I) (L : am_L) : Option (Int32 × am_I × am_L) :=
  am_lt (0 : Int32) (fun v1 => am_lt (24 : Int32) (fun v2 => fX8_bytesIn_b5 n d n a0 v1 v2 I L))

set_option maxRecDepth 100000 in
set_option maxHeartbeats 4000000 in
theorem tX8_bytesIn {x : am_X} {al : Bool} (n d : Nat) (hc : am_ok x cX8_bytesIn yX8_bytesIn 3 (some .int) (d + 1) 0 0) {r : Int32} {I' : am_I} {L' : am_L} (a0 : Int32) (I : am_I) (L : am_L) (hf : fX8_bytesIn n d a0 I L = some (r, I', L')) : am_J x (fun S => S = (some (.int r), (KC al), (RC al), I', L')) 0 [some (.int a0), none, none] [] (KC al) (RC al) I L 0 0 := by
  unfold fX8_bytesIn at hf
  refine j_iconst (v := (0 : Int32)) hc dX8_bytesIn_0 ci_0 ?_
  refine j_istore_n hc dX8_bytesIn_1 (Nat.le_of_ble_eq_true rfl) hf (fun v1 hf => ?_)
  refine j_bipush (v := (24 : Int32)) hc dX8_bytesIn_2 cb_24 ?_
  refine j_istore_n hc dX8_bytesIn_4 (Nat.le_of_ble_eq_true rfl) hf (fun v2 hf => ?_)
  exact j_sub (tX8_bytesIn_b5 n d hc n _ _ _ _ _ hf) (And.intro rfl (And.intro rfl (And.intro rfl (trivial))))

set_option maxRecDepth 100000 in
theorem qX8_bytesIn (l : Launch) {al : Bool} (n d : Nat) (a0 : Int32) (I : am_I) (L : am_L) (r : Int32) (I' : am_I) (L' : am_L) (hf : fX8_bytesIn n d a0 I L = some (r, I', L')) : am_C l yX8_bytesIn cX8_bytesIn 3 (some .int) (d + 1) [.int a0] (KC al) (RC al) I L (some (.int r)) I' L' := by
  exact am_intro (plainFor_of_name plX8) (fun _ _ => trivial) (Nat.le_of_ble_eq_true rfl) (fun x hl hc => by subst hl; exact j_sub (tX8_bytesIn n d hc _ _ _ hf) (And.intro rfl (trivial)))
set_option maxRecDepth 100000 in
def fX8_put_b58 (n d : Nat) (k3 : Int32 → Int32 → am_I → am_L → Option (am_I × am_L)) (a1 : Int32) (a2 : Int32) (I : am_I) (L : am_L) : Option (am_I × am_L) :=
  am_lt (a2 + (-8 : Int32)) (fun v1 => k3 a1 v1 I L)

set_option maxRecDepth 100000 in
set_option maxHeartbeats 4000000 in
theorem tX8_put_b58 {x : am_X} {al : Bool} (n d : Nat) (hc : am_ok x cX8_put yX8_put 4 none (d + 1) 0 0) {I' : am_I} {L' : am_L} (k3 : Int32 → Int32 → am_I → am_L → Option (am_I × am_L)) (hk3 : ∀ (a1 : Int32) (a2 : Int32) (I : am_I) (L : am_L), k3 a1 a2 I L = some (I', L') → am_J x (fun S => S = (none, (KC al), (RC al), I', L')) 3 [some (.ref 1), some (.int a1), some (.int a2), none] [] (KC al) (RC al) I L 0 0) (a1 : Int32) (a2 : Int32) (I : am_I) (L : am_L) (hf : fX8_put_b58 n d k3 a1 a2 I L = some (I', L')) : am_J x (fun S => S = (none, (KC al), (RC al), I', L')) 58 [some (.ref 1), some (.int a1), some (.int a2), none] [] (KC al) (RC al) I L 0 0 := by
  unfold fX8_put_b58 at hf
  refine j_iinc (w := (-8 : Int32)) hc dX8_put_58 rfl ci_m8 (Nat.le_of_ble_eq_true rfl) hf (fun v1 hf => ?_)
  refine j_goto (tgt := 3) hc dX8_put_61 rfl ?_
  exact j_sub (hk3 _ _ _ _ hf) (And.intro rfl (And.intro rfl (And.intro rfl (trivial))))

set_option maxRecDepth 100000 in
def fX8_put_b3w (n d : Nat) (k3 : Int32 → Int32 → am_I → am_L → Option (am_I × am_L)) (a1 : Int32) (a2 : Int32) (I : am_I) (L : am_L) : Option (am_I × am_L) :=
  if a2 < 0 then
    (some (I, L))
    else
    (am_lt ((a1.toUInt32 >>> (a2.toUInt32 &&& Int32.toUInt32 31)).toInt32 &&& (255 : Int32)) (fun v1 => if v1 = 0 then
      (fX8_put_b58 n d k3 a1 a2 I L)
      else
      (if (I 1 1) < 0 then
        (fX8_put_b58 n d k3 a1 a2 I L)
        else
        (if (240 : Int32) ≤ (I 1 1) then
          (fX8_put_b58 n d k3 a1 a2 I L)
          else
          (am_ck (I 1 1) 240 (am_lt (am_up I 2 ((I 1 1)).toNatClampNeg v1) (fun I2 => am_lt (am_up I2 1 1 ((I2 1 1) + (1 : Int32))) (fun I3 => fX8_put_b58 n d k3 a1 a2 I3 L))))))))

set_option maxRecDepth 100000 in
set_option maxHeartbeats 4000000 in
theorem tX8_put_b3w {x : am_X} {al : Bool} (n d : Nat) (hc : am_ok x cX8_put yX8_put 4 none (d + 1) 0 0) {I' : am_I} {L' : am_L} (k3 : Int32 → Int32 → am_I → am_L → Option (am_I × am_L)) (hk3 : ∀ (a1 : Int32) (a2 : Int32) (I : am_I) (L : am_L), k3 a1 a2 I L = some (I', L') → am_J x (fun S => S = (none, (KC al), (RC al), I', L')) 3 [some (.ref 1), some (.int a1), some (.int a2), none] [] (KC al) (RC al) I L 0 0) (a1 : Int32) (a2 : Int32) (I : am_I) (L : am_L) (hf : fX8_put_b3w n d k3 a1 a2 I L = some (I', L')) : am_J x (fun S => S = (none, (KC al), (RC al), I', L')) 3 [some (.ref 1), some (.int a1), some (.int a2), none] [] (KC al) (RC al) I L 0 0 := by
  unfold fX8_put_b3w at hf
  refine j_iload_n hc dX8_put_3 rfl ?_
  refine j_if_lt (tgt := 64) hc dX8_put_4 rfl hf (fun hf => ?_) (fun hf => ?_)
  · exact j_return hc dX8_put_64 rfl rfl hf
  · refine j_iload_n hc dX8_put_7 rfl ?_
    refine j_iload_n hc dX8_put_8 rfl ?_
    refine j_iushr hc dX8_put_9 ?_
    refine j_sipush (v := (255 : Int32)) hc dX8_put_10 cs_255 ?_
    refine j_iand hc dX8_put_13 ?_
    refine j_istore_n hc dX8_put_14 (Nat.le_of_ble_eq_true rfl) hf (fun v1 hf => ?_)
    refine j_iload_n hc dX8_put_15 rfl ?_
    refine j_if_eq (tgt := 58) hc dX8_put_16 rfl hf (fun hf => ?_) (fun hf => ?_)
    · exact j_sub (tX8_put_b58 n d hc k3 hk3 _ _ _ _ hf) (And.intro rfl (And.intro rfl (And.intro rfl (trivial))))
    · refine j_aload_n hc dX8_put_19 rfl ?_
      refine j_getI hc dX8_put_20 (fgC_X8_15_1 _) ?_
      refine j_if_lt (tgt := 58) hc dX8_put_23 rfl hf (fun hf => ?_) (fun hf => ?_)
      · exact j_sub (tX8_put_b58 n d hc k3 hk3 _ _ _ _ hf) (And.intro rfl (And.intro rfl (And.intro rfl (trivial))))
      · refine j_aload_n hc dX8_put_26 rfl ?_
        refine j_getI hc dX8_put_27 (fgC_X8_15_1 _) ?_
        refine j_aload_n hc dX8_put_30 rfl ?_
        refine j_getR (u := 2) hc dX8_put_31 (fgC_X8_11_1 _) (rC_1_0 _) ?_
        refine j_alen0 (v := (240 : Int32)) hc dX8_put_34 (kC_2 _) cn_240 ?_
        refine j_icmp_ge (tgt := 58) hc dX8_put_35 rfl hf (fun hf => ?_) (fun hf => ?_)
        · exact j_sub (tX8_put_b58 n d hc k3 hk3 _ _ _ _ hf) (And.intro rfl (And.intro rfl (And.intro rfl (trivial))))
        · refine j_aload_n hc dX8_put_38 rfl ?_
          refine j_getR (u := 2) hc dX8_put_39 (fgC_X8_11_1 _) (rC_1_0 _) ?_
          refine j_aload_n hc dX8_put_42 rfl ?_
          refine j_getI hc dX8_put_43 (fgC_X8_15_1 _) ?_
          refine j_iload_n hc dX8_put_46 rfl ?_
          refine j_iastore (n := 240) hc dX8_put_47 (kC_2 _) hf (fun I2 hf => ?_)
          refine j_aload_n hc dX8_put_48 rfl ?_
          refine j_dup hc dX8_put_49 rfl ?_
          refine j_getI hc dX8_put_50 (fgC_X8_15_1 _) ?_
          refine j_iconst (v := (1 : Int32)) hc dX8_put_53 ci_1 ?_
          refine j_iadd hc dX8_put_54 ?_
          refine j_putI hc dX8_put_55 (fpC_X8_15_1 _) rfl rfl hf (fun I3 hf => ?_)
          exact j_sub (tX8_put_b58 n d hc k3 hk3 _ _ _ _ hf) (And.intro rfl (And.intro rfl (And.intro rfl (trivial))))

def fX8_put_b3 (n d : Nat) : Nat → Int32 → Int32 → am_I → am_L → Option (am_I × am_L)
  | 0 => fun _ _ _ _ => none
  | m + 1 => fX8_put_b3w n d  (fX8_put_b3 n d m)

set_option maxRecDepth 100000 in
theorem tX8_put_b3 {x : am_X} {al : Bool} (n d : Nat) (hc : am_ok x cX8_put yX8_put 4 none (d + 1) 0 0) {I' : am_I} {L' : am_L} (m : Nat) : ∀ (a1 : Int32) (a2 : Int32) (I : am_I) (L : am_L) (hf : fX8_put_b3 n d m a1 a2 I L = some (I', L')), am_J x (fun S => S = (none, (KC al), (RC al), I', L')) 3 [some (.ref 1), some (.int a1), some (.int a2), none] [] (KC al) (RC al) I L 0 0 := by
  induction m with
  | zero => intro a1 a2 I L hf; exact (Option.some_ne_none _ hf.symm).elim
  | succ m ih => intro a1 a2 I L hf; exact tX8_put_b3w n d hc (fX8_put_b3 n d m) ih a1 a2 I L hf

set_option maxRecDepth 100000 in
def fX8_put (n d : Nat) (a1 : Int32) (I : am_I) (L : am_L) : Option (am_I × am_L) :=
  am_lt (24 : Int32) (fun v1 => fX8_put_b3 n d n a1 v1 I L)

set_option maxRecDepth 100000 in
set_option maxHeartbeats 4000000 in
theorem tX8_put {x : am_X} {al : Bool} (n d : Nat) (hc : am_ok x cX8_put yX8_put 4 none (d + 1) 0 0) {I' : am_I} {L' : am_L} (a1 : Int32) (I : am_I) (L : am_L) (hf : fX8_put n d a1 I L = some (I', L')) : am_J x (fun S => S = (none, (KC al), (RC al), I', L')) 0 [some (.ref 1), some (.int a1), none, none] [] (KC al) (RC al) I L 0 0 := by
  unfold fX8_put at hf
  refine j_bipush (v := (24 : Int32)) hc dX8_put_0 cb_24 ?_
  refine j_istore_n hc dX8_put_2 (Nat.le_of_ble_eq_true rfl) hf (fun v1 hf => ?_)
  exact j_sub (tX8_put_b3 n d hc n _ _ _ _ hf) (And.intro rfl (And.intro rfl (And.intro rfl (trivial))))

set_option maxRecDepth 100000 in
theorem qX8_put (l : Launch) {al : Bool} (n d : Nat) (a1 : Int32) (I : am_I) (L : am_L) (I' : am_I) (L' : am_L) (hf : fX8_put n d a1 I L = some (I', L')) : am_C l yX8_put cX8_put 4 none (d + 1) [.ref 1, .int a1] (KC al) (RC al) I L none I' L' := by
  exact am_intro (plainFor_of_name plX8) (fun _ _ => trivial) (Nat.le_of_ble_eq_true rfl) (fun x hl hc => by subst hl; exact j_sub (tX8_put n d hc _ _ _ hf) (And.intro rfl (And.intro rfl (trivial))))
set_option maxRecDepth 100000 in
def fX11_feed (n d : Nat) (a1 : Int32) (a2 : Int32) (a3 : Int32) (a4 : Int32) (a5 : Int32) (I : am_I) (L : am_L) : Option (Int32 × am_I × am_L) :=
  am_b3 (fX8_bytesIn n d a1 I L) (fun v1 I1 L1 => am_b3 (fX8_bytesIn n d a2 I1 L1) (fun v2 I2 L2 => am_b3 (fX8_bytesIn n d a3 I2 L2) (fun v3 I3 L3 => am_b3 (fX8_bytesIn n d a4 I3 L3) (fun v4 I4 L4 => am_b3 (fX8_bytesIn n d a5 I4 L4) (fun v5 I5 L5 => am_lt ((((v1 + v2) + v3) + v4) + v5) (fun v6 => if ((I5 1 1) + v6) ≤ (240 : Int32) then
    (am_b2 (fX8_put n d a1 I5 L5) (fun I7 L7 => am_b2 (fX8_put n d a2 I7 L7) (fun I8 L8 => am_b2 (fX8_put n d a3 I8 L8) (fun I9 L9 => am_b2 (fX8_put n d a4 I9 L9) (fun I10 L10 => am_b2 (fX8_put n d a5 I10 L10) (fun I11 L11 => some ((I11 1 1), I11, L11)))))))
    else
    (some ((-1 : Int32), I5, L5))))))))

set_option maxRecDepth 100000 in
set_option maxHeartbeats 4000000 in
theorem tX11_feed {x : am_X} {al : Bool} (n d : Nat) (hc : am_ok x cX11_feed yX11_feed 7 (some .int) (d + 2) 0 0) {r : Int32} {I' : am_I} {L' : am_L} (a1 : Int32) (a2 : Int32) (a3 : Int32) (a4 : Int32) (a5 : Int32) (I : am_I) (L : am_L) (hf : fX11_feed n d a1 a2 a3 a4 a5 I L = some (r, I', L')) : am_J x (fun S => S = (some (.int r), (KC al), (RC al), I', L')) 0 [some (.ref 0), some (.int a1), some (.int a2), some (.int a3), some (.int a4), some (.int a5), none] [] (KC al) (RC al) I L 0 0 := by
  unfold fX11_feed at hf
  refine j_iload_n hc dX11_feed_0 rfl ?_
  refine j_callSI (As := [.int a1]) hc dX11_feed_1 kw_556 mX8_bytesIn  rfl (by omega) (Nat.le_of_ble_eq_true rfl) (Nat.le_of_ble_eq_true rfl) ⟨Nat.le_refl _, Nat.le_refl _⟩ hf (fun v I' L' h => qX8_bytesIn x.2.1 n d a1 I L v I' L' h) (fun v1 I1 L1 hf => ?_)
  refine j_iload_n hc dX11_feed_4 rfl ?_
  refine j_callSI (As := [.int a2]) hc dX11_feed_5 kw_556 mX8_bytesIn  rfl (by omega) (Nat.le_of_ble_eq_true rfl) (Nat.le_of_ble_eq_true rfl) ⟨Nat.le_refl _, Nat.le_refl _⟩ hf (fun v I' L' h => qX8_bytesIn x.2.1 n d a2 I1 L1 v I' L' h) (fun v2 I2 L2 hf => ?_)
  refine j_iadd hc dX11_feed_8 ?_
  refine j_iload_n hc dX11_feed_9 rfl ?_
  refine j_callSI (As := [.int a3]) hc dX11_feed_10 kw_556 mX8_bytesIn  rfl (by omega) (Nat.le_of_ble_eq_true rfl) (Nat.le_of_ble_eq_true rfl) ⟨Nat.le_refl _, Nat.le_refl _⟩ hf (fun v I' L' h => qX8_bytesIn x.2.1 n d a3 I2 L2 v I' L' h) (fun v3 I3 L3 hf => ?_)
  refine j_iadd hc dX11_feed_13 ?_
  refine j_iload hc dX11_feed_14 rfl ?_
  refine j_callSI (As := [.int a4]) hc dX11_feed_16 kw_556 mX8_bytesIn  rfl (by omega) (Nat.le_of_ble_eq_true rfl) (Nat.le_of_ble_eq_true rfl) ⟨Nat.le_refl _, Nat.le_refl _⟩ hf (fun v I' L' h => qX8_bytesIn x.2.1 n d a4 I3 L3 v I' L' h) (fun v4 I4 L4 hf => ?_)
  refine j_iadd hc dX11_feed_19 ?_
  refine j_iload hc dX11_feed_20 rfl ?_
  refine j_callSI (As := [.int a5]) hc dX11_feed_22 kw_556 mX8_bytesIn  rfl (by omega) (Nat.le_of_ble_eq_true rfl) (Nat.le_of_ble_eq_true rfl) ⟨Nat.le_refl _, Nat.le_refl _⟩ hf (fun v I' L' h => qX8_bytesIn x.2.1 n d a5 I4 L4 v I' L' h) (fun v5 I5 L5 hf => ?_)
  refine j_iadd hc dX11_feed_25 ?_
  refine j_istore hc dX11_feed_26 (Nat.le_of_ble_eq_true rfl) hf (fun v6 hf => ?_)
  refine j_aload_n hc dX11_feed_28 rfl ?_
  refine j_getR (u := 1) hc dX11_feed_29 (fgC_X11_10_0 _) (rC_0_0 _) ?_
  refine j_getI hc dX11_feed_32 (fgC_X11_113_1 _) ?_
  refine j_iload hc dX11_feed_35 rfl ?_
  refine j_iadd hc dX11_feed_37 ?_
  refine j_sipush (v := (240 : Int32)) hc dX11_feed_38 cs_240 ?_
  refine j_icmp_le (tgt := 46) hc dX11_feed_41 rfl hf (fun hf => ?_) (fun hf => ?_)
  · refine j_aload_n hc dX11_feed_46 rfl ?_
    refine j_getR (u := 1) hc dX11_feed_47 (fgC_X11_10_0 _) (rC_0_0 _) ?_
    refine j_iload_n hc dX11_feed_50 rfl ?_
    refine j_callVV (t := 1) (As := [.int a1]) hc dX11_feed_51 kw_559 mX8_put (kC_1 _) clX8 rfl (by omega) (Nat.le_of_ble_eq_true rfl) (Nat.le_of_ble_eq_true rfl) ⟨Nat.le_refl _, Nat.le_refl _⟩ hf (fun I' L' h => qX8_put x.2.1 n d a1 I5 L5 I' L' h) (fun I7 L7 hf => ?_)
    refine j_aload_n hc dX11_feed_54 rfl ?_
    refine j_getR (u := 1) hc dX11_feed_55 (fgC_X11_10_0 _) (rC_0_0 _) ?_
    refine j_iload_n hc dX11_feed_58 rfl ?_
    refine j_callVV (t := 1) (As := [.int a2]) hc dX11_feed_59 kw_559 mX8_put (kC_1 _) clX8 rfl (by omega) (Nat.le_of_ble_eq_true rfl) (Nat.le_of_ble_eq_true rfl) ⟨Nat.le_refl _, Nat.le_refl _⟩ hf (fun I' L' h => qX8_put x.2.1 n d a2 I7 L7 I' L' h) (fun I8 L8 hf => ?_)
    refine j_aload_n hc dX11_feed_62 rfl ?_
    refine j_getR (u := 1) hc dX11_feed_63 (fgC_X11_10_0 _) (rC_0_0 _) ?_
    refine j_iload_n hc dX11_feed_66 rfl ?_
    refine j_callVV (t := 1) (As := [.int a3]) hc dX11_feed_67 kw_559 mX8_put (kC_1 _) clX8 rfl (by omega) (Nat.le_of_ble_eq_true rfl) (Nat.le_of_ble_eq_true rfl) ⟨Nat.le_refl _, Nat.le_refl _⟩ hf (fun I' L' h => qX8_put x.2.1 n d a3 I8 L8 I' L' h) (fun I9 L9 hf => ?_)
    refine j_aload_n hc dX11_feed_70 rfl ?_
    refine j_getR (u := 1) hc dX11_feed_71 (fgC_X11_10_0 _) (rC_0_0 _) ?_
    refine j_iload hc dX11_feed_74 rfl ?_
    refine j_callVV (t := 1) (As := [.int a4]) hc dX11_feed_76 kw_559 mX8_put (kC_1 _) clX8 rfl (by omega) (Nat.le_of_ble_eq_true rfl) (Nat.le_of_ble_eq_true rfl) ⟨Nat.le_refl _, Nat.le_refl _⟩ hf (fun I' L' h => qX8_put x.2.1 n d a4 I9 L9 I' L' h) (fun I10 L10 hf => ?_)
    refine j_aload_n hc dX11_feed_79 rfl ?_
    refine j_getR (u := 1) hc dX11_feed_80 (fgC_X11_10_0 _) (rC_0_0 _) ?_
    refine j_iload hc dX11_feed_83 rfl ?_
    refine j_callVV (t := 1) (As := [.int a5]) hc dX11_feed_85 kw_559 mX8_put (kC_1 _) clX8 rfl (by omega) (Nat.le_of_ble_eq_true rfl) (Nat.le_of_ble_eq_true rfl) ⟨Nat.le_refl _, Nat.le_refl _⟩ hf (fun I' L' h => qX8_put x.2.1 n d a5 I10 L10 I' L' h) (fun I11 L11 hf => ?_)
    refine j_aload_n hc dX11_feed_88 rfl ?_
    refine j_getR (u := 1) hc dX11_feed_89 (fgC_X11_10_0 _) (rC_0_0 _) ?_
    refine j_getI hc dX11_feed_92 (fgC_X11_113_1 _) ?_
    exact j_ireturn hc dX11_feed_95 rfl rfl hf
  · refine j_iconst (v := (-1 : Int32)) hc dX11_feed_44 ci_m1 ?_
    exact j_ireturn hc dX11_feed_45 rfl rfl hf

set_option maxRecDepth 100000 in
theorem qX11_feed (l : Launch) {al : Bool} (n d : Nat) (a1 : Int32) (a2 : Int32) (a3 : Int32) (a4 : Int32) (a5 : Int32) (I : am_I) (L : am_L) (r : Int32) (I' : am_I) (L' : am_L) (hf : fX11_feed n d a1 a2 a3 a4 a5 I L = some (r, I', L')) : am_C l yX11_feed cX11_feed 7 (some .int) (d + 2) [.ref 0, .int a1, .int a2, .int a3, .int a4, .int a5] (KC al) (RC al) I L (some (.int r)) I' L' := by
  exact am_intro (plainFor_of_name plX11) (fun _ _ => trivial) (Nat.le_of_ble_eq_true rfl) (fun x hl hc => by subst hl; exact j_sub (tX11_feed n d hc _ _ _ _ _ _ _ hf) (And.intro rfl (And.intro rfl (And.intro rfl (And.intro rfl (And.intro rfl (And.intro rfl (trivial))))))))
set_option maxRecDepth 100000 in
def fX11_end (n d : Nat) (a1 : Int32) (I : am_I) (L : am_L) : Option (Int32 × am_I × am_L) :=
  if a1 < 0 then
    (some ((0 : Int32), I, L))
    else
    (if a1 ≤ (I 1 1) then
      (am_lt (am_up I 1 1 a1) (fun I1 => some ((1 : Int32), I1, L)))
      else
      (some ((0 : Int32), I, L)))

set_option maxRecDepth 100000 in
set_option maxHeartbeats 4000000 in
theorem tX11_end {x : am_X} {al : Bool} (n d : Nat) (hc : am_ok x cX11_end yX11_end 2 (some .boolean) (d + 1) 0 0) {r : Int32} {I' : am_I} {L' : am_L} (a1 : Int32) (I : am_I) (L : am_L) (hf : fX11_end n d a1 I L = some (r, I', L')) : am_J x (fun S => S = (some (.int r), (KC al), (RC al), I', L')) 0 [some (.ref 0), some (.int a1)] [] (KC al) (RC al) I L 0 0 := by
  unfold fX11_end at hf
  refine j_iload_n hc dX11_end_0 rfl ?_
  refine j_if_lt (tgt := 15) hc dX11_end_1 rfl hf (fun hf => ?_) (fun hf => ?_)
  · refine j_iconst (v := (0 : Int32)) hc dX11_end_15 ci_0 ?_
    exact j_zret hc dX11_end_16 rfl rfl (Or.inl rfl) hf
  · refine j_iload_n hc dX11_end_4 rfl ?_
    refine j_aload_n hc dX11_end_5 rfl ?_
    refine j_getR (u := 1) hc dX11_end_6 (fgC_X11_10_0 _) (rC_0_0 _) ?_
    refine j_getI hc dX11_end_9 (fgC_X11_113_1 _) ?_
    refine j_icmp_le (tgt := 17) hc dX11_end_12 rfl hf (fun hf => ?_) (fun hf => ?_)
    · refine j_aload_n hc dX11_end_17 rfl ?_
      refine j_getR (u := 1) hc dX11_end_18 (fgC_X11_10_0 _) (rC_0_0 _) ?_
      refine j_iload_n hc dX11_end_21 rfl ?_
      refine j_putI hc dX11_end_22 (fpC_X11_113_1 _) rfl rfl hf (fun I1 hf => ?_)
      refine j_iconst (v := (1 : Int32)) hc dX11_end_25 ci_1 ?_
      exact j_zret hc dX11_end_26 rfl rfl (Or.inr rfl) hf
    · refine j_iconst (v := (0 : Int32)) hc dX11_end_15 ci_0 ?_
      exact j_zret hc dX11_end_16 rfl rfl (Or.inl rfl) hf

set_option maxRecDepth 100000 in
theorem qX11_end (l : Launch) {al : Bool} (n d : Nat) (a1 : Int32) (I : am_I) (L : am_L) (r : Int32) (I' : am_I) (L' : am_L) (hf : fX11_end n d a1 I L = some (r, I', L')) : am_C l yX11_end cX11_end 2 (some .boolean) (d + 1) [.ref 0, .int a1] (KC al) (RC al) I L (some (.int r)) I' L' := by
  exact am_intro (plainFor_of_name plX11) (fun _ _ => trivial) (Nat.le_of_ble_eq_true rfl) (fun x hl hc => by subst hl; exact j_sub (tX11_end n d hc _ _ _ hf) (And.intro rfl (And.intro rfl (trivial))))
set_option maxRecDepth 100000 in
def fX9_clear_draft_b41w (n d : Nat) (k41 : Int32 → am_I → am_L → Option (am_I × am_L)) (a3 : Int32) (I : am_I) (L : am_L) : Option (am_I × am_L) :=
  if (21 : Int32) ≤ a3 then
    (some (I, L))
    else
    (am_ck a3 21 (am_lt (am_up I 23 (a3).toNatClampNeg (0 : Int32)) (fun I1 => am_lt (a3 + (1 : Int32)) (fun v2 => k41 v2 I1 L))))

set_option maxRecDepth 100000 in
set_option maxHeartbeats 4000000 in
theorem tX9_clear_draft_b41w {x : am_X} {al : Bool} (n d : Nat) (hc : am_ok x cX9_clear yX9_clear 4 none (d + 1) 0 0) {I' : am_I} {L' : am_L} (k41 : Int32 → am_I → am_L → Option (am_I × am_L)) (hk41 : ∀ (a3 : Int32) (I : am_I) (L : am_L), k41 a3 I L = some (I', L') → am_J x (fun S => S = (none, (KC al), (RC al), I', L')) 41 [some (.ref 14), none, none, some (.int a3)] [] (KC al) (RC al) I L 0 0) (a3 : Int32) (I : am_I) (L : am_L) (hf : fX9_clear_draft_b41w n d k41 a3 I L = some (I', L')) : am_J x (fun S => S = (none, (KC al), (RC al), I', L')) 41 [some (.ref 14), none, none, some (.int a3)] [] (KC al) (RC al) I L 0 0 := by
  unfold fX9_clear_draft_b41w at hf
  refine j_iload_n hc dX9_clear_41 rfl ?_
  refine j_aload_n hc dX9_clear_42 rfl ?_
  refine j_getR (u := 23) hc dX9_clear_43 (fgC_X9_51_14 _) (rC_14_13 _) ?_
  refine j_alen0 (v := (21 : Int32)) hc dX9_clear_46 (kC_23 _) cn_21 ?_
  refine j_icmp_ge (tgt := 63) hc dX9_clear_47 rfl hf (fun hf => ?_) (fun hf => ?_)
  · exact j_return hc dX9_clear_63 rfl rfl hf
  · refine j_aload_n hc dX9_clear_50 rfl ?_
    refine j_getR (u := 23) hc dX9_clear_51 (fgC_X9_51_14 _) (rC_14_13 _) ?_
    refine j_iload_n hc dX9_clear_54 rfl ?_
    refine j_iconst (v := (0 : Int32)) hc dX9_clear_55 ci_0 ?_
    refine j_iastore (n := 21) hc dX9_clear_56 (kC_23 _) hf (fun I1 hf => ?_)
    refine j_iinc (w := (1 : Int32)) hc dX9_clear_57 rfl ci_1 (Nat.le_of_ble_eq_true rfl) hf (fun v2 hf => ?_)
    refine j_goto (tgt := 41) hc dX9_clear_60 rfl ?_
    exact j_sub (hk41 _ _ _ hf) (And.intro rfl (And.intro rfl (trivial)))

def fX9_clear_draft_b41 (n d : Nat) : Nat → Int32 → am_I → am_L → Option (am_I × am_L)
  | 0 => fun _ _ _ => none
  | m + 1 => fX9_clear_draft_b41w n d  (fX9_clear_draft_b41 n d m)

set_option maxRecDepth 100000 in
theorem tX9_clear_draft_b41 {x : am_X} {al : Bool} (n d : Nat) (hc : am_ok x cX9_clear yX9_clear 4 none (d + 1) 0 0) {I' : am_I} {L' : am_L} (m : Nat) : ∀ (a3 : Int32) (I : am_I) (L : am_L) (hf : fX9_clear_draft_b41 n d m a3 I L = some (I', L')), am_J x (fun S => S = (none, (KC al), (RC al), I', L')) 41 [some (.ref 14), none, none, some (.int a3)] [] (KC al) (RC al) I L 0 0 := by
  induction m with
  | zero => intro a3 I L hf; exact (Option.some_ne_none _ hf.symm).elim
  | succ m ih => intro a3 I L hf; exact tX9_clear_draft_b41w n d hc (fX9_clear_draft_b41 n d m) ih a3 I L hf

set_option maxRecDepth 100000 in
def fX9_clear_draft (n d : Nat) (a1 : Int32) (a2 : Int32) (I : am_I) (L : am_L) : Option (am_I × am_L) :=
  am_lt (am_up I 14 0 (0 : Int32)) (fun I1 => am_lt (am_up I1 14 1 (0 : Int32)) (fun I2 => am_lt (am_up I2 14 2 a1) (fun I3 => am_lt (am_up I3 14 3 a2) (fun I4 => am_bl (1 : Int32) (am_lt (am_up I4 14 4 (1 : Int32)) (fun I5 => am_ck (0 : Int32) 2 (am_lt (am_up I5 24 ((0 : Int32)).toNatClampNeg (0 : Int32)) (fun I6 => am_ck (1 : Int32) 2 (am_lt (am_up I6 24 ((1 : Int32)).toNatClampNeg (0 : Int32)) (fun I7 => am_lt (0 : Int32) (fun v8 => fX9_clear_draft_b41 n d n v8 I7 L)))))))))))

set_option maxRecDepth 100000 in
set_option maxHeartbeats 4000000 in
theorem tX9_clear_draft {x : am_X} {al : Bool} (n d : Nat) (hc : am_ok x cX9_clear yX9_clear 4 none (d + 1) 0 0) {I' : am_I} {L' : am_L} (a1 : Int32) (a2 : Int32) (I : am_I) (L : am_L) (hf : fX9_clear_draft n d a1 a2 I L = some (I', L')) : am_J x (fun S => S = (none, (KC al), (RC al), I', L')) 0 [some (.ref 14), some (.int a1), some (.int a2), none] [] (KC al) (RC al) I L 0 0 := by
  unfold fX9_clear_draft at hf
  refine j_aload_n hc dX9_clear_0 rfl ?_
  refine j_iconst (v := (0 : Int32)) hc dX9_clear_1 ci_0 ?_
  refine j_putI hc dX9_clear_2 (fpC_X9_7_14 _) rfl rfl hf (fun I1 hf => ?_)
  refine j_aload_n hc dX9_clear_5 rfl ?_
  refine j_iconst (v := (0 : Int32)) hc dX9_clear_6 ci_0 ?_
  refine j_putI hc dX9_clear_7 (fpC_X9_13_14 _) rfl rfl hf (fun I2 hf => ?_)
  refine j_aload_n hc dX9_clear_10 rfl ?_
  refine j_iload_n hc dX9_clear_11 rfl ?_
  refine j_putI hc dX9_clear_12 (fpC_X9_16_14 _) rfl rfl hf (fun I3 hf => ?_)
  refine j_aload_n hc dX9_clear_15 rfl ?_
  refine j_iload_n hc dX9_clear_16 rfl ?_
  refine j_putI hc dX9_clear_17 (fpC_X9_19_14 _) rfl rfl hf (fun I4 hf => ?_)
  refine j_aload_n hc dX9_clear_20 rfl ?_
  refine j_iconst (v := (1 : Int32)) hc dX9_clear_21 ci_1 ?_
  refine j_putZ hc dX9_clear_22 (fpC_X9_22_14 _) rfl hf (fun I5 hf => ?_)
  refine j_aload_n hc dX9_clear_25 rfl ?_
  refine j_getR (u := 24) hc dX9_clear_26 (fgC_X9_54_14 _) (rC_14_14 _) ?_
  refine j_iconst (v := (0 : Int32)) hc dX9_clear_29 ci_0 ?_
  refine j_iconst (v := (0 : Int32)) hc dX9_clear_30 ci_0 ?_
  refine j_iastore (n := 2) hc dX9_clear_31 (kC_24 _) hf (fun I6 hf => ?_)
  refine j_aload_n hc dX9_clear_32 rfl ?_
  refine j_getR (u := 24) hc dX9_clear_33 (fgC_X9_54_14 _) (rC_14_14 _) ?_
  refine j_iconst (v := (1 : Int32)) hc dX9_clear_36 ci_1 ?_
  refine j_iconst (v := (0 : Int32)) hc dX9_clear_37 ci_0 ?_
  refine j_iastore (n := 2) hc dX9_clear_38 (kC_24 _) hf (fun I7 hf => ?_)
  refine j_iconst (v := (0 : Int32)) hc dX9_clear_39 ci_0 ?_
  refine j_istore_n hc dX9_clear_40 (Nat.le_of_ble_eq_true rfl) hf (fun v8 hf => ?_)
  exact j_sub (tX9_clear_draft_b41 n d hc n _ _ _ hf) (And.intro rfl (And.intro rfl (trivial)))

set_option maxRecDepth 100000 in
theorem qX9_clear_draft (l : Launch) {al : Bool} (n d : Nat) (a1 : Int32) (a2 : Int32) (I : am_I) (L : am_L) (I' : am_I) (L' : am_L) (hf : fX9_clear_draft n d a1 a2 I L = some (I', L')) : am_C l yX9_clear cX9_clear 4 none (d + 1) [.ref 14, .int a1, .int a2] (KC al) (RC al) I L none I' L' := by
  exact am_intro (plainFor_of_name plX9) (fun _ _ => trivial) (Nat.le_of_ble_eq_true rfl) (fun x hl hc => by subst hl; exact j_sub (tX9_clear_draft n d hc _ _ _ _ hf) (And.intro rfl (And.intro rfl (And.intro rfl (trivial)))))
set_option maxRecDepth 100000 in
def fX8_behindBlanks_b2w (n d : Nat) (k2 : Int32 → am_I → am_L → Option (Int32 × am_I × am_L)) (a2 : Int32) (I : am_I) (L : am_L) : Option (Int32 × am_I × am_L) :=
  if a2 < 0 then
    (some (a2, I, L))
    else
    (if (I 1 1) ≤ a2 then
      (some (a2, I, L))
      else
      (if (240 : Int32) ≤ a2 then
        (some (a2, I, L))
        else
        (am_ck a2 240 (am_lt (I 2 (a2).toNatClampNeg) (fun v1 => if v1 = (32 : Int32) then
          (am_lt (a2 + (1 : Int32)) (fun v2 => k2 v2 I L))
          else
          (some (a2, I, L)))))))

set_option maxRecDepth 100000 in
set_option maxHeartbeats 4000000 in
theorem tX8_behindBlanks_b2w {x : am_X} {al : Bool} (n d : Nat) (hc : am_ok x cX8_behindBlanks yX8_behindBlanks 3 (some .int) (d + 1) 0 0) {r : Int32} {I' : am_I} {L' : am_L} (k2 : Int32 → am_I → am_L → Option (Int32 × am_I × am_L)) (hk2 : ∀ (a2 : Int32) (I : am_I) (L : am_L), k2 a2 I L = some (r, I', L') → am_J x (fun S => S = (some (.int r), (KC al), (RC al), I', L')) 2 [some (.ref 1), none, some (.int a2)] [] (KC al) (RC al) I L 0 0) (a2 : Int32) (I : am_I) (L : am_L) (hf : fX8_behindBlanks_b2w n d k2 a2 I L = some (r, I', L')) : am_J x (fun S => S = (some (.int r), (KC al), (RC al), I', L')) 2 [some (.ref 1), none, some (.int a2)] [] (KC al) (RC al) I L 0 0 := by
  unfold fX8_behindBlanks_b2w at hf
  refine j_iload_n hc dX8_behindBlanks_2 rfl ?_
  refine j_if_lt (tgt := 38) hc dX8_behindBlanks_3 rfl hf (fun hf => ?_) (fun hf => ?_)
  · refine j_iload_n hc dX8_behindBlanks_38 rfl ?_
    exact j_ireturn hc dX8_behindBlanks_39 rfl rfl hf
  · refine j_iload_n hc dX8_behindBlanks_6 rfl ?_
    refine j_aload_n hc dX8_behindBlanks_7 rfl ?_
    refine j_getI hc dX8_behindBlanks_8 (fgC_X8_15_1 _) ?_
    refine j_icmp_ge (tgt := 38) hc dX8_behindBlanks_11 rfl hf (fun hf => ?_) (fun hf => ?_)
    · refine j_iload_n hc dX8_behindBlanks_38 rfl ?_
      exact j_ireturn hc dX8_behindBlanks_39 rfl rfl hf
    · refine j_iload_n hc dX8_behindBlanks_14 rfl ?_
      refine j_sipush (v := (240 : Int32)) hc dX8_behindBlanks_15 cs_240 ?_
      refine j_icmp_ge (tgt := 38) hc dX8_behindBlanks_18 rfl hf (fun hf => ?_) (fun hf => ?_)
      · refine j_iload_n hc dX8_behindBlanks_38 rfl ?_
        exact j_ireturn hc dX8_behindBlanks_39 rfl rfl hf
      · refine j_aload_n hc dX8_behindBlanks_21 rfl ?_
        refine j_getR (u := 2) hc dX8_behindBlanks_22 (fgC_X8_11_1 _) (rC_1_0 _) ?_
        refine j_iload_n hc dX8_behindBlanks_25 rfl ?_
        refine j_iaload (n := 240) hc dX8_behindBlanks_26 (kC_2 _) hf (fun v1 hf => ?_)
        refine j_bipush (v := (32 : Int32)) hc dX8_behindBlanks_27 cb_32 ?_
        refine j_icmp_ne (tgt := 38) hc dX8_behindBlanks_29 rfl hf (fun hf => ?_) (fun hf => ?_)
        · refine j_iload_n hc dX8_behindBlanks_38 rfl ?_
          exact j_ireturn hc dX8_behindBlanks_39 rfl rfl hf
        · refine j_iinc (w := (1 : Int32)) hc dX8_behindBlanks_32 rfl ci_1 (Nat.le_of_ble_eq_true rfl) hf (fun v2 hf => ?_)
          refine j_goto (tgt := 2) hc dX8_behindBlanks_35 rfl ?_
          exact j_sub (hk2 _ _ _ hf) (And.intro rfl (And.intro rfl (trivial)))

def fX8_behindBlanks_b2 (n d : Nat) : Nat → Int32 → am_I → am_L → Option (Int32 × am_I × am_L)
  | 0 => fun _ _ _ => none
  | m + 1 => fX8_behindBlanks_b2w n d  (fX8_behindBlanks_b2 n d m)

set_option maxRecDepth 100000 in
theorem tX8_behindBlanks_b2 {x : am_X} {al : Bool} (n d : Nat) (hc : am_ok x cX8_behindBlanks yX8_behindBlanks 3 (some .int) (d + 1) 0 0) {r : Int32} {I' : am_I} {L' : am_L} (m : Nat) : ∀ (a2 : Int32) (I : am_I) (L : am_L) (hf : fX8_behindBlanks_b2 n d m a2 I L = some (r, I', L')), am_J x (fun S => S = (some (.int r), (KC al), (RC al), I', L')) 2 [some (.ref 1), none, some (.int a2)] [] (KC al) (RC al) I L 0 0 := by
  induction m with
  | zero => intro a2 I L hf; exact (Option.some_ne_none _ hf.symm).elim
  | succ m ih => intro a2 I L hf; exact tX8_behindBlanks_b2w n d hc (fX8_behindBlanks_b2 n d m) ih a2 I L hf

set_option maxRecDepth 100000 in
def fX8_behindBlanks (n d : Nat) (a1 : Int32) (I : am_I) (L : am_L) : Option (Int32 × am_I × am_L) :=
  am_lt a1 (fun v1 => fX8_behindBlanks_b2 n d n v1 I L)

set_option maxRecDepth 100000 in
set_option maxHeartbeats 4000000 in
theorem tX8_behindBlanks {x : am_X} {al : Bool} (n d : Nat) (hc : am_ok x cX8_behindBlanks yX8_behindBlanks 3 (some .int) (d + 1) 0 0) {r : Int32} {I' : am_I} {L' : am_L} (a1 : Int32) (I : am_I) (L : am_L) (hf : fX8_behindBlanks n d a1 I L = some (r, I', L')) : am_J x (fun S => S = (some (.int r), (KC al), (RC al), I', L')) 0 [some (.ref 1), some (.int a1), none] [] (KC al) (RC al) I L 0 0 := by
  unfold fX8_behindBlanks at hf
  refine j_iload_n hc dX8_behindBlanks_0 rfl ?_
  refine j_istore_n hc dX8_behindBlanks_1 (Nat.le_of_ble_eq_true rfl) hf (fun v1 hf => ?_)
  exact j_sub (tX8_behindBlanks_b2 n d hc n _ _ _ hf) (And.intro rfl (And.intro rfl (trivial)))

set_option maxRecDepth 100000 in
theorem qX8_behindBlanks (l : Launch) {al : Bool} (n d : Nat) (a1 : Int32) (I : am_I) (L : am_L) (r : Int32) (I' : am_I) (L' : am_L) (hf : fX8_behindBlanks n d a1 I L = some (r, I', L')) : am_C l yX8_behindBlanks cX8_behindBlanks 3 (some .int) (d + 1) [.ref 1, .int a1] (KC al) (RC al) I L (some (.int r)) I' L' := by
  exact am_intro (plainFor_of_name plX8) (fun _ _ => trivial) (Nat.le_of_ble_eq_true rfl) (fun x hl hc => by subst hl; exact j_sub (tX8_behindBlanks n d hc _ _ _ hf) (And.intro rfl (And.intro rfl (trivial))))
set_option maxRecDepth 100000 in
def fX8_at (n d : Nat) (a1 : Int32) (I : am_I) (L : am_L) : Option (Int32 × am_I × am_L) :=
  if a1 < 0 then
    (some ((-1 : Int32), I, L))
    else
    (if (I 1 1) ≤ a1 then
      (some ((-1 : Int32), I, L))
      else
      (if (240 : Int32) ≤ a1 then
        (some ((-1 : Int32), I, L))
        else
        (am_ck a1 240 (am_lt (I 2 (a1).toNatClampNeg) (fun v1 => some (v1, I, L))))))

set_option maxRecDepth 100000 in
set_option maxHeartbeats 4000000 in
theorem tX8_at {x : am_X} {al : Bool} (n d : Nat) (hc : am_ok x cX8_at yX8_at 2 (some .int) (d + 1) 0 0) {r : Int32} {I' : am_I} {L' : am_L} (a1 : Int32) (I : am_I) (L : am_L) (hf : fX8_at n d a1 I L = some (r, I', L')) : am_J x (fun S => S = (some (.int r), (KC al), (RC al), I', L')) 0 [some (.ref 1), some (.int a1)] [] (KC al) (RC al) I L 0 0 := by
  unfold fX8_at at hf
  refine j_iload_n hc dX8_at_0 rfl ?_
  refine j_if_lt (tgt := 30) hc dX8_at_1 rfl hf (fun hf => ?_) (fun hf => ?_)
  · refine j_iconst (v := (-1 : Int32)) hc dX8_at_30 ci_m1 ?_
    exact j_ireturn hc dX8_at_31 rfl rfl hf
  · refine j_iload_n hc dX8_at_4 rfl ?_
    refine j_aload_n hc dX8_at_5 rfl ?_
    refine j_getI hc dX8_at_6 (fgC_X8_15_1 _) ?_
    refine j_icmp_ge (tgt := 30) hc dX8_at_9 rfl hf (fun hf => ?_) (fun hf => ?_)
    · refine j_iconst (v := (-1 : Int32)) hc dX8_at_30 ci_m1 ?_
      exact j_ireturn hc dX8_at_31 rfl rfl hf
    · refine j_iload_n hc dX8_at_12 rfl ?_
      refine j_aload_n hc dX8_at_13 rfl ?_
      refine j_getR (u := 2) hc dX8_at_14 (fgC_X8_11_1 _) (rC_1_0 _) ?_
      refine j_alen0 (v := (240 : Int32)) hc dX8_at_17 (kC_2 _) cn_240 ?_
      refine j_icmp_ge (tgt := 30) hc dX8_at_18 rfl hf (fun hf => ?_) (fun hf => ?_)
      · refine j_iconst (v := (-1 : Int32)) hc dX8_at_30 ci_m1 ?_
        exact j_ireturn hc dX8_at_31 rfl rfl hf
      · refine j_aload_n hc dX8_at_21 rfl ?_
        refine j_getR (u := 2) hc dX8_at_22 (fgC_X8_11_1 _) (rC_1_0 _) ?_
        refine j_iload_n hc dX8_at_25 rfl ?_
        refine j_iaload (n := 240) hc dX8_at_26 (kC_2 _) hf (fun v1 hf => ?_)
        refine j_goto (tgt := 31) hc dX8_at_27 rfl ?_
        exact j_ireturn hc dX8_at_31 rfl rfl hf

set_option maxRecDepth 100000 in
theorem qX8_at (l : Launch) {al : Bool} (n d : Nat) (a1 : Int32) (I : am_I) (L : am_L) (r : Int32) (I' : am_I) (L' : am_L) (hf : fX8_at n d a1 I L = some (r, I', L')) : am_C l yX8_at cX8_at 2 (some .int) (d + 1) [.ref 1, .int a1] (KC al) (RC al) I L (some (.int r)) I' L' := by
  exact am_intro (plainFor_of_name plX8) (fun _ _ => trivial) (Nat.le_of_ble_eq_true rfl) (fun x hl hc => by subst hl; exact j_sub (tX8_at n d hc _ _ _ hf) (And.intro rfl (And.intro rfl (trivial))))
set_option maxRecDepth 100000 in
def fX10_firstItemOf (n d : Nat) (a0 : Int32) (I : am_I) (L : am_L) : Option (Int32 × am_I × am_L) :=
  if a0 = (109 : Int32) then
    (some ((0 : Int32), I, L))
    else
    (if a0 = (111 : Int32) then
      (some ((6 : Int32), I, L))
      else
      (if a0 = (119 : Int32) then
        (some ((8 : Int32), I, L))
        else
        (some ((-1 : Int32), I, L))))

set_option maxRecDepth 100000 in
set_option maxHeartbeats 4000000 in
theorem tX10_firstItemOf {x : am_X} {al : Bool} (n d : Nat) (hc : am_ok x cX10_firstItemOf yX10_firstItemOf 1 (some .int) (d + 1) 0 0) {r : Int32} {I' : am_I} {L' : am_L} (a0 : Int32) (I : am_I) (L : am_L) (hf : fX10_firstItemOf n d a0 I L = some (r, I', L')) : am_J x (fun S => S = (some (.int r), (KC al), (RC al), I', L')) 0 [some (.int a0)] [] (KC al) (RC al) I L 0 0 := by
  unfold fX10_firstItemOf at hf
  refine j_iload_n hc dX10_firstItemOf_0 rfl ?_
  refine j_bipush (v := (109 : Int32)) hc dX10_firstItemOf_1 cb_109 ?_
  refine j_icmp_ne (tgt := 8) hc dX10_firstItemOf_3 rfl hf (fun hf => ?_) (fun hf => ?_)
  · refine j_iload_n hc dX10_firstItemOf_8 rfl ?_
    refine j_bipush (v := (111 : Int32)) hc dX10_firstItemOf_9 cb_111 ?_
    refine j_icmp_ne (tgt := 17) hc dX10_firstItemOf_11 rfl hf (fun hf => ?_) (fun hf => ?_)
    · refine j_iload_n hc dX10_firstItemOf_17 rfl ?_
      refine j_bipush (v := (119 : Int32)) hc dX10_firstItemOf_18 cb_119 ?_
      refine j_icmp_ne (tgt := 28) hc dX10_firstItemOf_20 rfl hf (fun hf => ?_) (fun hf => ?_)
      · refine j_iconst (v := (-1 : Int32)) hc dX10_firstItemOf_28 ci_m1 ?_
        exact j_ireturn hc dX10_firstItemOf_29 rfl rfl hf
      · refine j_bipush (v := (8 : Int32)) hc dX10_firstItemOf_23 cb_8 ?_
        refine j_goto (tgt := 29) hc dX10_firstItemOf_25 rfl ?_
        exact j_ireturn hc dX10_firstItemOf_29 rfl rfl hf
    · refine j_bipush (v := (6 : Int32)) hc dX10_firstItemOf_14 cb_6 ?_
      exact j_ireturn hc dX10_firstItemOf_16 rfl rfl hf
  · refine j_iconst (v := (0 : Int32)) hc dX10_firstItemOf_6 ci_0 ?_
    exact j_ireturn hc dX10_firstItemOf_7 rfl rfl hf

set_option maxRecDepth 100000 in
theorem qX10_firstItemOf (l : Launch) {al : Bool} (n d : Nat) (a0 : Int32) (I : am_I) (L : am_L) (r : Int32) (I' : am_I) (L' : am_L) (hf : fX10_firstItemOf n d a0 I L = some (r, I', L')) : am_C l yX10_firstItemOf cX10_firstItemOf 1 (some .int) (d + 1) [.int a0] (KC al) (RC al) I L (some (.int r)) I' L' := by
  exact am_intro (plainFor_of_name plX10) (fun _ _ => trivial) (Nat.le_of_ble_eq_true rfl) (fun x hl hc => by subst hl; exact j_sub (tX10_firstItemOf n d hc _ _ _ hf) (And.intro rfl (trivial)))
set_option maxRecDepth 100000 in
def fX10_isOneTooMany (n d : Nat) (a1 : Int32) (I : am_I) (L : am_L) : Option (Int32 × am_I × am_L) :=
  if a1 = (109 : Int32) then
    (if (I 14 0) < (8 : Int32) then
      (some ((0 : Int32), I, L))
      else
      (some ((1 : Int32), I, L)))
    else
    (if a1 = (111 : Int32) then
      (if (I 14 1) < (6 : Int32) then
        (some ((0 : Int32), I, L))
        else
        (some ((1 : Int32), I, L)))
      else
      (am_bl (I 25 5) (some ((I 25 5), I, L))))

set_option maxRecDepth 100000 in
set_option maxHeartbeats 4000000 in
theorem tX10_isOneTooMany {x : am_X} {al : Bool} (n d : Nat) (hc : am_ok x cX10_isOneTooMany yX10_isOneTooMany 2 (some .boolean) (d + 1) 0 0) {r : Int32} {I' : am_I} {L' : am_L} (a1 : Int32) (I : am_I) (L : am_L) (hf : fX10_isOneTooMany n d a1 I L = some (r, I', L')) : am_J x (fun S => S = (some (.int r), (KC al), (RC al), I', L')) 0 [some (.ref 25), some (.int a1)] [] (KC al) (RC al) I L 0 0 := by
  unfold fX10_isOneTooMany at hf
  refine j_iload_n hc dX10_isOneTooMany_0 rfl ?_
  refine j_bipush (v := (109 : Int32)) hc dX10_isOneTooMany_1 cb_109 ?_
  refine j_icmp_ne (tgt := 24) hc dX10_isOneTooMany_3 rfl hf (fun hf => ?_) (fun hf => ?_)
  · refine j_iload_n hc dX10_isOneTooMany_24 rfl ?_
    refine j_bipush (v := (111 : Int32)) hc dX10_isOneTooMany_25 cb_111 ?_
    refine j_icmp_ne (tgt := 50) hc dX10_isOneTooMany_27 rfl hf (fun hf => ?_) (fun hf => ?_)
    · refine j_aload_n hc dX10_isOneTooMany_50 rfl ?_
      refine j_getI hc dX10_isOneTooMany_51 (fgC_X10_22_25 _) ?_
      exact j_zreturn hc dX10_isOneTooMany_54 rfl rfl hf
    · refine j_aload_n hc dX10_isOneTooMany_30 rfl ?_
      refine j_getR (u := 14) hc dX10_isOneTooMany_31 (fgC_X10_30_25 _) (rC_25_1 _) ?_
      refine j_getI hc dX10_isOneTooMany_34 (fgC_X10_85_14 _) ?_
      refine j_bipush (v := (6 : Int32)) hc dX10_isOneTooMany_37 cb_6 ?_
      refine j_icmp_lt (tgt := 46) hc dX10_isOneTooMany_39 rfl hf (fun hf => ?_) (fun hf => ?_)
      · refine j_iconst (v := (0 : Int32)) hc dX10_isOneTooMany_46 ci_0 ?_
        refine j_goto (tgt := 54) hc dX10_isOneTooMany_47 rfl ?_
        exact j_zret hc dX10_isOneTooMany_54 rfl rfl (Or.inl rfl) hf
      · refine j_iconst (v := (1 : Int32)) hc dX10_isOneTooMany_42 ci_1 ?_
        refine j_goto (tgt := 54) hc dX10_isOneTooMany_43 rfl ?_
        exact j_zret hc dX10_isOneTooMany_54 rfl rfl (Or.inr rfl) hf
  · refine j_aload_n hc dX10_isOneTooMany_6 rfl ?_
    refine j_getR (u := 14) hc dX10_isOneTooMany_7 (fgC_X10_30_25 _) (rC_25_1 _) ?_
    refine j_getI hc dX10_isOneTooMany_10 (fgC_X10_82_14 _) ?_
    refine j_bipush (v := (8 : Int32)) hc dX10_isOneTooMany_13 cb_8 ?_
    refine j_icmp_lt (tgt := 22) hc dX10_isOneTooMany_15 rfl hf (fun hf => ?_) (fun hf => ?_)
    · refine j_iconst (v := (0 : Int32)) hc dX10_isOneTooMany_22 ci_0 ?_
      exact j_zret hc dX10_isOneTooMany_23 rfl rfl (Or.inl rfl) hf
    · refine j_iconst (v := (1 : Int32)) hc dX10_isOneTooMany_18 ci_1 ?_
      refine j_goto (tgt := 23) hc dX10_isOneTooMany_19 rfl ?_
      exact j_zret hc dX10_isOneTooMany_23 rfl rfl (Or.inr rfl) hf

set_option maxRecDepth 100000 in
theorem qX10_isOneTooMany (l : Launch) {al : Bool} (n d : Nat) (a1 : Int32) (I : am_I) (L : am_L) (r : Int32) (I' : am_I) (L' : am_L) (hf : fX10_isOneTooMany n d a1 I L = some (r, I', L')) : am_C l yX10_isOneTooMany cX10_isOneTooMany 2 (some .boolean) (d + 1) [.ref 25, .int a1] (KC al) (RC al) I L (some (.int r)) I' L' := by
  exact am_intro (plainFor_of_name plX10) (fun _ _ => trivial) (Nat.le_of_ble_eq_true rfl) (fun x hl hc => by subst hl; exact j_sub (tX10_isOneTooMany n d hc _ _ _ hf) (And.intro rfl (And.intro rfl (trivial))))
set_option maxRecDepth 100000 in
def fX10_goOn (n d : Nat) (I : am_I) (L : am_L) : Option (am_I × am_L) :=
  am_b3 (fX8_behindBlanks n d ((I 25 4) + (1 : Int32)) I L) (fun v1 I1 L1 => am_lt (am_up I1 25 4 v1) (fun I2 => some (I2, L1)))

set_option maxRecDepth 100000 in
set_option maxHeartbeats 4000000 in
theorem tX10_goOn {x : am_X} {al : Bool} (n d : Nat) (hc : am_ok x cX10_goOn yX10_goOn 1 none (d + 2) 0 0) {I' : am_I} {L' : am_L} (I : am_I) (L : am_L) (hf : fX10_goOn n d I L = some (I', L')) : am_J x (fun S => S = (none, (KC al), (RC al), I', L')) 0 [some (.ref 25)] [] (KC al) (RC al) I L 0 0 := by
  unfold fX10_goOn at hf
  refine j_aload_n hc dX10_goOn_0 rfl ?_
  refine j_aload_n hc dX10_goOn_1 rfl ?_
  refine j_getR (u := 1) hc dX10_goOn_2 (fgC_X10_26_25 _) (rC_25_0 _) ?_
  refine j_aload_n hc dX10_goOn_5 rfl ?_
  refine j_getI hc dX10_goOn_6 (fgC_X10_19_25 _) ?_
  refine j_iconst (v := (1 : Int32)) hc dX10_goOn_9 ci_1 ?_
  refine j_iadd hc dX10_goOn_10 ?_
  refine j_callVI (t := 1) (As := [.int ((I 25 4) + (1 : Int32))]) hc dX10_goOn_11 kw_581 mX8_behindBlanks (kC_1 _) clX8 rfl (by omega) (Nat.le_of_ble_eq_true rfl) (Nat.le_of_ble_eq_true rfl) ⟨Nat.le_refl _, Nat.le_refl _⟩ hf (fun v I' L' h => qX8_behindBlanks x.2.1 n d ((I 25 4) + (1 : Int32)) I L v I' L' h) (fun v1 I1 L1 hf => ?_)
  refine j_putI hc dX10_goOn_14 (fpC_X10_19_25 _) rfl rfl hf (fun I2 hf => ?_)
  exact j_return hc dX10_goOn_17 rfl rfl hf

set_option maxRecDepth 100000 in
theorem qX10_goOn (l : Launch) {al : Bool} (n d : Nat) (I : am_I) (L : am_L) (I' : am_I) (L' : am_L) (hf : fX10_goOn n d I L = some (I', L')) : am_C l yX10_goOn cX10_goOn 1 none (d + 2) [.ref 25] (KC al) (RC al) I L none I' L' := by
  exact am_intro (plainFor_of_name plX10) (fun _ _ => trivial) (Nat.le_of_ble_eq_true rfl) (fun x hl hc => by subst hl; exact j_sub (tX10_goOn n d hc  _ _ hf) (And.intro rfl (trivial)))
set_option maxRecDepth 100000 in
def fX10_endOfItems (n d : Nat) (a0 : Int32) (I : am_I) (L : am_L) : Option (Int32 × am_I × am_L) :=
  if a0 = 0 then
    (some ((6 : Int32), I, L))
    else
    (if a0 = (6 : Int32) then
      (some ((8 : Int32), I, L))
      else
      (some ((10 : Int32), I, L)))

set_option maxRecDepth 100000 in
set_option maxHeartbeats 4000000 in
theorem tX10_endOfItems {x : am_X} {al : Bool} (n d : Nat) (hc : am_ok x cX10_endOfItems yX10_endOfItems 1 (some .int) (d + 1) 0 0) {r : Int32} {I' : am_I} {L' : am_L} (a0 : Int32) (I : am_I) (L : am_L) (hf : fX10_endOfItems n d a0 I L = some (r, I', L')) : am_J x (fun S => S = (some (.int r), (KC al), (RC al), I', L')) 0 [some (.int a0)] [] (KC al) (RC al) I L 0 0 := by
  unfold fX10_endOfItems at hf
  refine j_iload_n hc dX10_endOfItems_0 rfl ?_
  refine j_if_ne (tgt := 7) hc dX10_endOfItems_1 rfl hf (fun hf => ?_) (fun hf => ?_)
  · refine j_iload_n hc dX10_endOfItems_7 rfl ?_
    refine j_bipush (v := (6 : Int32)) hc dX10_endOfItems_8 cb_6 ?_
    refine j_icmp_ne (tgt := 18) hc dX10_endOfItems_10 rfl hf (fun hf => ?_) (fun hf => ?_)
    · refine j_bipush (v := (10 : Int32)) hc dX10_endOfItems_18 cb_10 ?_
      exact j_ireturn hc dX10_endOfItems_20 rfl rfl hf
    · refine j_bipush (v := (8 : Int32)) hc dX10_endOfItems_13 cb_8 ?_
      refine j_goto (tgt := 20) hc dX10_endOfItems_15 rfl ?_
      exact j_ireturn hc dX10_endOfItems_20 rfl rfl hf
  · refine j_bipush (v := (6 : Int32)) hc dX10_endOfItems_4 cb_6 ?_
    exact j_ireturn hc dX10_endOfItems_6 rfl rfl hf

set_option maxRecDepth 100000 in
theorem qX10_endOfItems (l : Launch) {al : Bool} (n d : Nat) (a0 : Int32) (I : am_I) (L : am_L) (r : Int32) (I' : am_I) (L' : am_L) (hf : fX10_endOfItems n d a0 I L = some (r, I', L')) : am_C l yX10_endOfItems cX10_endOfItems 1 (some .int) (d + 1) [.int a0] (KC al) (RC al) I L (some (.int r)) I' L' := by
  exact am_intro (plainFor_of_name plX10) (fun _ _ => trivial) (Nat.le_of_ble_eq_true rfl) (fun x hl hc => by subst hl; exact j_sub (tX10_endOfItems n d hc _ _ _ hf) (And.intro rfl (trivial)))
set_option maxRecDepth 100000 in
def fJ0_isLatin1_aae02_k10 (n d : Nat) (I : am_I) (L : am_L) : Option (Int32 × am_I × am_L) :=
  if (1 : Int32) = 0 then
    (none)
    else
    (if (0 : Int32) = 0 then
      (some ((1 : Int32), I, L))
      else
      (none))

set_option maxRecDepth 100000 in
set_option maxHeartbeats 4000000 in
theorem tJ0_isLatin1_aae02_k10 {x : am_X} {al : Bool} (n d : Nat) (hc : am_ok x cJ0_isLatin1_aae02 yJ0_isLatin1_aae02 1 (some .boolean) (d + 1) 0 0) {r : Int32} {I' : am_I} {L' : am_L} (I : am_I) (L : am_L) (hf : fJ0_isLatin1_aae02_k10 n d I L = some (r, I', L')) : am_J x (fun S => S = (some (.int r), (KC al), (RC al), I', L')) 0 [some (.ref 1000010)] [] (KC al) (RC al) I L 0 0 := by
  unfold fJ0_isLatin1_aae02_k10 at hf
  refine j_getst (v := .int 1) hc dJ0_isLatin1_aae02_0 kw_627 cZCOMPACT_STRINGS ?_
  refine j_if_eq (tgt := 17) hc dJ0_isLatin1_aae02_3 rfl hf (fun hf => ?_) (fun hf => ?_)
  · exact (Option.some_ne_none _ hf.symm).elim
  · refine j_aload_n hc dJ0_isLatin1_aae02_6 rfl ?_
    refine j_getC (v := .int 0) hc dJ0_isLatin1_aae02_7 kw_2137 cO1000010 ?_
    refine j_if_ne (tgt := 17) hc dJ0_isLatin1_aae02_10 rfl hf (fun hf => ?_) (fun hf => ?_)
    · exact (Option.some_ne_none _ hf.symm).elim
    · refine j_iconst (v := (1 : Int32)) hc dJ0_isLatin1_aae02_13 ci_1 ?_
      refine j_goto (tgt := 18) hc dJ0_isLatin1_aae02_14 rfl ?_
      exact j_zret hc dJ0_isLatin1_aae02_18 rfl rfl (Or.inr rfl) hf

set_option maxRecDepth 100000 in
theorem qJ0_isLatin1_aae02_k10 (l : Launch) {al : Bool} (n d : Nat) (I : am_I) (L : am_L) (r : Int32) (I' : am_I) (L' : am_L) (hf : fJ0_isLatin1_aae02_k10 n d I L = some (r, I', L')) : am_C l yJ0_isLatin1_aae02 cJ0_isLatin1_aae02 1 (some .boolean) (d + 1) [.ref 1000010] (KC al) (RC al) I L (some (.int r)) I' L' := by
  exact am_intro (pfJ0_isLatin1_aae02) (fun _ _ => trivial) (Nat.le_of_ble_eq_true rfl) (fun x hl hc => by subst hl; exact j_sub (tJ0_isLatin1_aae02_k10 n d hc  _ _ hf) (And.intro rfl (trivial)))
set_option maxRecDepth 100000 in
def fJ0_coder_7d493_k10 (n d : Nat) (I : am_I) (L : am_L) : Option (Int32 × am_I × am_L) :=
  if (1 : Int32) = 0 then
    (none)
    else
    (some ((0 : Int32), I, L))

set_option maxRecDepth 100000 in
set_option maxHeartbeats 4000000 in
theorem tJ0_coder_7d493_k10 {x : am_X} {al : Bool} (n d : Nat) (hc : am_ok x cJ0_coder_7d493 yJ0_coder_7d493 1 (some .byte) (d + 1) 0 0) {r : Int32} {I' : am_I} {L' : am_L} (I : am_I) (L : am_L) (hf : fJ0_coder_7d493_k10 n d I L = some (r, I', L')) : am_J x (fun S => S = (some (.int r), (KC al), (RC al), I', L')) 0 [some (.ref 1000010)] [] (KC al) (RC al) I L 0 0 := by
  unfold fJ0_coder_7d493_k10 at hf
  refine j_getst (v := .int 1) hc dJ0_coder_7d493_0 kw_627 cZCOMPACT_STRINGS ?_
  refine j_if_eq (tgt := 13) hc dJ0_coder_7d493_3 rfl hf (fun hf => ?_) (fun hf => ?_)
  · exact (Option.some_ne_none _ hf.symm).elim
  · refine j_aload_n hc dJ0_coder_7d493_6 rfl ?_
    refine j_getC (v := .int 0) hc dJ0_coder_7d493_7 kw_2137 cO1000010 ?_
    refine j_goto (tgt := 14) hc dJ0_coder_7d493_10 rfl ?_
    exact j_nret hc dJ0_coder_7d493_14 rfl rfl rfl hf

set_option maxRecDepth 100000 in
theorem qJ0_coder_7d493_k10 (l : Launch) {al : Bool} (n d : Nat) (I : am_I) (L : am_L) (r : Int32) (I' : am_I) (L' : am_L) (hf : fJ0_coder_7d493_k10 n d I L = some (r, I', L')) : am_C l yJ0_coder_7d493 cJ0_coder_7d493 1 (some .byte) (d + 1) [.ref 1000010] (KC al) (RC al) I L (some (.int r)) I' L' := by
  exact am_intro (pfJ0_coder_7d493) (fun _ _ => trivial) (Nat.le_of_ble_eq_true rfl) (fun x hl hc => by subst hl; exact j_sub (tJ0_coder_7d493_k10 n d hc  _ _ hf) (And.intro rfl (trivial)))
set_option maxRecDepth 100000 in
def fJ0_length_8abf5_k10 (n d : Nat) (I : am_I) (L : am_L) : Option (Int32 × am_I × am_L) :=
  am_b3 (fJ0_coder_7d493_k10 n d I L) (fun v1 I1 L1 => some (((10 : Int32) >>> (v1 &&& 31)), I1, L1))

set_option maxRecDepth 100000 in
set_option maxHeartbeats 4000000 in
theorem tJ0_length_8abf5_k10 {x : am_X} {al : Bool} (n d : Nat) (hc : am_ok x cJ0_length_8abf5 yJ0_length_8abf5 1 (some .int) (d + 2) 0 0) {r : Int32} {I' : am_I} {L' : am_L} (I : am_I) (L : am_L) (hf : fJ0_length_8abf5_k10 n d I L = some (r, I', L')) : am_J x (fun S => S = (some (.int r), (KC al), (RC al), I', L')) 0 [some (.ref 1000010)] [] (KC al) (RC al) I L 0 0 := by
  unfold fJ0_length_8abf5_k10 at hf
  refine j_aload_n hc dJ0_length_8abf5_0 rfl ?_
  refine j_getC (v := .ref 1000011) hc dJ0_length_8abf5_1 kw_2138 cV1000010 ?_
  refine j_alenC (v := (10 : Int32)) hc dJ0_length_8abf5_4 cB0 cn_10 ?_
  refine j_aload_n hc dJ0_length_8abf5_5 rfl ?_
  refine j_callKI (t := 1000010) (As := []) hc dJ0_length_8abf5_6 kw_633 mJ0_coder_7d493 cQ1000010 rfl (by omega) (Nat.le_of_ble_eq_true rfl) (Nat.le_of_ble_eq_true rfl) ⟨Nat.le_refl _, Nat.le_refl _⟩ hf (fun v I' L' h => qJ0_coder_7d493_k10 x.2.1 n d I L v I' L' h) (fun v1 I1 L1 hf => ?_)
  refine j_ishr hc dJ0_length_8abf5_9 ?_
  exact j_ireturn hc dJ0_length_8abf5_10 rfl rfl hf

set_option maxRecDepth 100000 in
theorem qJ0_length_8abf5_k10 (l : Launch) {al : Bool} (n d : Nat) (I : am_I) (L : am_L) (r : Int32) (I' : am_I) (L' : am_L) (hf : fJ0_length_8abf5_k10 n d I L = some (r, I', L')) : am_C l yJ0_length_8abf5 cJ0_length_8abf5 1 (some .int) (d + 2) [.ref 1000010] (KC al) (RC al) I L (some (.int r)) I' L' := by
  exact am_intro (pfJ0_length_8abf5) (fun _ _ => trivial) (Nat.le_of_ble_eq_true rfl) (fun x hl hc => by subst hl; exact j_sub (tJ0_length_8abf5_k10 n d hc  _ _ hf) (And.intro rfl (trivial)))
set_option maxRecDepth 100000 in
def fJ1_indexOfChar_4cfef_k11_b7w (n d : Nat) (k7 : Int32 → Int32 → Int32 → am_I → am_L → Option (Int32 × am_I × am_L)) (a3 : Int32) (a4 : Int32) (a5 : Int32) (I : am_I) (L : am_L) : Option (Int32 × am_I × am_L) :=
  if a3 ≤ a5 then
    (some ((-1 : Int32), I, L))
    else
    (am_ck a5 10 (am_lt ((fun j => (am_by.getD 0 []).getD j 0) (a5).toNatClampNeg) (fun v1 => if v1 = a4 then
      (some (a5, I, L))
      else
      (am_lt (a5 + (1 : Int32)) (fun v2 => k7 a3 a4 v2 I L)))))

set_option maxRecDepth 100000 in
set_option maxHeartbeats 4000000 in
theorem tJ1_indexOfChar_4cfef_k11_b7w {x : am_X} {al : Bool} (n d : Nat) (hc : am_ok x cJ1_indexOfChar_4cfef yJ1_indexOfChar_4cfef 6 (some .int) (d + 1) 0 0) {r : Int32} {I' : am_I} {L' : am_L} (k7 : Int32 → Int32 → Int32 → am_I → am_L → Option (Int32 × am_I × am_L)) (hk7 : ∀ (a3 : Int32) (a4 : Int32) (a5 : Int32) (I : am_I) (L : am_L), k7 a3 a4 a5 I L = some (r, I', L') → am_J x (fun S => S = (some (.int r), (KC al), (RC al), I', L')) 7 [some (.ref 1000011), none, none, some (.int a3), some (.int a4), some (.int a5)] [] (KC al) (RC al) I L 0 0) (a3 : Int32) (a4 : Int32) (a5 : Int32) (I : am_I) (L : am_L) (hf : fJ1_indexOfChar_4cfef_k11_b7w n d k7 a3 a4 a5 I L = some (r, I', L')) : am_J x (fun S => S = (some (.int r), (KC al), (RC al), I', L')) 7 [some (.ref 1000011), none, none, some (.int a3), some (.int a4), some (.int a5)] [] (KC al) (RC al) I L 0 0 := by
  unfold fJ1_indexOfChar_4cfef_k11_b7w at hf
  refine j_iload hc dJ1_indexOfChar_4cfef_7 rfl ?_
  refine j_iload_n hc dJ1_indexOfChar_4cfef_9 rfl ?_
  refine j_icmp_ge (tgt := 31) hc dJ1_indexOfChar_4cfef_10 rfl hf (fun hf => ?_) (fun hf => ?_)
  · refine j_iconst (v := (-1 : Int32)) hc dJ1_indexOfChar_4cfef_31 ci_m1 ?_
    exact j_ireturn hc dJ1_indexOfChar_4cfef_32 rfl rfl hf
  · refine j_aload_n hc dJ1_indexOfChar_4cfef_13 rfl ?_
    refine j_iload hc dJ1_indexOfChar_4cfef_14 rfl ?_
    refine j_baldC (t := 1000011) (n := 10) (f := (fun j => (am_by.getD 0 []).getD j 0)) hc dJ1_indexOfChar_4cfef_16 cB0 hf (fun v1 hf => ?_)
    refine j_iload hc dJ1_indexOfChar_4cfef_17 rfl ?_
    refine j_icmp_ne (tgt := 25) hc dJ1_indexOfChar_4cfef_19 rfl hf (fun hf => ?_) (fun hf => ?_)
    · refine j_iinc (w := (1 : Int32)) hc dJ1_indexOfChar_4cfef_25 rfl ci_1 (Nat.le_of_ble_eq_true rfl) hf (fun v2 hf => ?_)
      refine j_goto (tgt := 7) hc dJ1_indexOfChar_4cfef_28 rfl ?_
      exact j_sub (hk7 _ _ _ _ _ hf) (And.intro rfl (And.intro rfl (And.intro rfl (And.intro rfl (trivial)))))
    · refine j_iload hc dJ1_indexOfChar_4cfef_22 rfl ?_
      exact j_ireturn hc dJ1_indexOfChar_4cfef_24 rfl rfl hf

def fJ1_indexOfChar_4cfef_k11_b7 (n d : Nat) : Nat → Int32 → Int32 → Int32 → am_I → am_L → Option (Int32 × am_I × am_L)
  | 0 => fun _ _ _ _ _ => none
  | m + 1 => fJ1_indexOfChar_4cfef_k11_b7w n d  (fJ1_indexOfChar_4cfef_k11_b7 n d m)

set_option maxRecDepth 100000 in
theorem tJ1_indexOfChar_4cfef_k11_b7 {x : am_X} {al : Bool} (n d : Nat) (hc : am_ok x cJ1_indexOfChar_4cfef yJ1_indexOfChar_4cfef 6 (some .int) (d + 1) 0 0) {r : Int32} {I' : am_I} {L' : am_L} (m : Nat) : ∀ (a3 : Int32) (a4 : Int32) (a5 : Int32) (I : am_I) (L : am_L) (hf : fJ1_indexOfChar_4cfef_k11_b7 n d m a3 a4 a5 I L = some (r, I', L')), am_J x (fun S => S = (some (.int r), (KC al), (RC al), I', L')) 7 [some (.ref 1000011), none, none, some (.int a3), some (.int a4), some (.int a5)] [] (KC al) (RC al) I L 0 0 := by
  induction m with
  | zero => intro a3 a4 a5 I L hf; exact (Option.some_ne_none _ hf.symm).elim
  | succ m ih => intro a3 a4 a5 I L hf; exact tJ1_indexOfChar_4cfef_k11_b7w n d hc (fJ1_indexOfChar_4cfef_k11_b7 n d m) ih a3 a4 a5 I L hf

set_option maxRecDepth 100000 in
def fJ1_indexOfChar_4cfef_k11 (n d : Nat) (a1 : Int32) (a2 : Int32) (a3 : Int32) (I : am_I) (L : am_L) : Option (Int32 × am_I × am_L) :=
  am_lt a1.toInt8.toInt32 (fun v1 => am_lt a2 (fun v2 => fJ1_indexOfChar_4cfef_k11_b7 n d n a3 v1 v2 I L))

set_option maxRecDepth 100000 in
set_option maxHeartbeats 4000000 in
theorem tJ1_indexOfChar_4cfef_k11 {x : am_X} {al : Bool} (n d : Nat) (hc : am_ok x cJ1_indexOfChar_4cfef yJ1_indexOfChar_4cfef 6 (some .int) (d + 1) 0 0) {r : Int32} {I' : am_I} {L' : am_L} (a1 : Int32) (a2 : Int32) (a3 : Int32) (I : am_I) (L : am_L) (hf : fJ1_indexOfChar_4cfef_k11 n d a1 a2 a3 I L = some (r, I', L')) : am_J x (fun S => S = (some (.int r), (KC al), (RC al), I', L')) 0 [some (.ref 1000011), some (.int a1), some (.int a2), some (.int a3), none, none] [] (KC al) (RC al) I L 0 0 := by
  unfold fJ1_indexOfChar_4cfef_k11 at hf
  refine j_iload_n hc dJ1_indexOfChar_4cfef_0 rfl ?_
  refine j_i2b hc dJ1_indexOfChar_4cfef_1 ?_
  refine j_istore hc dJ1_indexOfChar_4cfef_2 (Nat.le_of_ble_eq_true rfl) hf (fun v1 hf => ?_)
  refine j_iload_n hc dJ1_indexOfChar_4cfef_4 rfl ?_
  refine j_istore hc dJ1_indexOfChar_4cfef_5 (Nat.le_of_ble_eq_true rfl) hf (fun v2 hf => ?_)
  exact j_sub (tJ1_indexOfChar_4cfef_k11_b7 n d hc n _ _ _ _ _ hf) (And.intro rfl (And.intro rfl (And.intro rfl (And.intro rfl (trivial)))))

set_option maxRecDepth 100000 in
theorem qJ1_indexOfChar_4cfef_k11 (l : Launch) {al : Bool} (n d : Nat) (a1 : Int32) (a2 : Int32) (a3 : Int32) (I : am_I) (L : am_L) (r : Int32) (I' : am_I) (L' : am_L) (hf : fJ1_indexOfChar_4cfef_k11 n d a1 a2 a3 I L = some (r, I', L')) : am_C l yJ1_indexOfChar_4cfef cJ1_indexOfChar_4cfef 6 (some .int) (d + 1) [.ref 1000011, .int a1, .int a2, .int a3] (KC al) (RC al) I L (some (.int r)) I' L' := by
  exact am_intro (pfJ1_indexOfChar_4cfef) (fun _ _ => trivial) (Nat.le_of_ble_eq_true rfl) (fun x hl hc => by subst hl; exact j_sub (tJ1_indexOfChar_4cfef_k11 n d hc _ _ _ _ _ hf) (And.intro rfl (And.intro rfl (And.intro rfl (And.intro rfl (trivial))))))
set_option maxRecDepth 100000 in
def fJ1_indexOf_4cfef_k11 (n d : Nat) (a1 : Int32) (a2 : Int32) (a3 : Int32) (I : am_I) (L : am_L) : Option (Int32 × am_I × am_L) :=
  am_b3 (fJ1_canEncode_9a6ad n d a1 I L) (fun v1 I1 L1 => if v1 = 0 then
    (some ((-1 : Int32), I1, L1))
    else
    (am_b3 (fJ9_max_7cf53 n d a2 (0 : Int32) I1 L1) (fun v2 I2 L2 => am_lt v2 (fun v3 => am_b3 (fJ9_min_7cf53 n d a3 (10 : Int32) I2 L2) (fun v4 I4 L4 => am_lt v4 (fun v5 => if v3 < v5 then
      (am_b3 (fJ1_indexOfChar_4cfef_k11 n d a1 v3 v5 I4 L4) (fun v6 I6 L6 => some (v6, I6, L6)))
      else
      (some ((-1 : Int32), I4, L4))))))))

set_option maxRecDepth 100000 in
set_option maxHeartbeats 4000000 in
theorem tJ1_indexOf_4cfef_k11 {x : am_X} {al : Bool} (n d : Nat) (hc : am_ok x cJ1_indexOf_4cfef yJ1_indexOf_4cfef 4 (some .int) (d + 2) 0 0) {r : Int32} {I' : am_I} {L' : am_L} (a1 : Int32) (a2 : Int32) (a3 : Int32) (I : am_I) (L : am_L) (hf : fJ1_indexOf_4cfef_k11 n d a1 a2 a3 I L = some (r, I', L')) : am_J x (fun S => S = (some (.int r), (KC al), (RC al), I', L')) 0 [some (.ref 1000011), some (.int a1), some (.int a2), some (.int a3)] [] (KC al) (RC al) I L 0 0 := by
  unfold fJ1_indexOf_4cfef_k11 at hf
  refine j_iload_n hc dJ1_indexOf_4cfef_0 rfl ?_
  refine j_callSI (As := [.int a1]) hc dJ1_indexOf_4cfef_1 kw_640 mJ1_canEncode_9a6ad  rfl (by omega) (Nat.le_of_ble_eq_true rfl) (Nat.le_of_ble_eq_true rfl) ⟨Nat.le_refl _, Nat.le_refl _⟩ hf (fun v I' L' h => qJ1_canEncode_9a6ad x.2.1 n d a1 I L v I' L' h) (fun v1 I1 L1 hf => ?_)
  refine j_if_ne (tgt := 9) hc dJ1_indexOf_4cfef_4 rfl hf (fun hf => ?_) (fun hf => ?_)
  · refine j_iload_n hc dJ1_indexOf_4cfef_9 rfl ?_
    refine j_iconst (v := (0 : Int32)) hc dJ1_indexOf_4cfef_10 ci_0 ?_
    refine j_callSI (As := [.int a2, .int (0 : Int32)]) hc dJ1_indexOf_4cfef_11 kw_643 mJ9_max_7cf53  rfl (by omega) (Nat.le_of_ble_eq_true rfl) (Nat.le_of_ble_eq_true rfl) ⟨Nat.le_refl _, Nat.le_refl _⟩ hf (fun v I' L' h => qJ9_max_7cf53 x.2.1 n d a2 (0 : Int32) I1 L1 v I' L' h) (fun v2 I2 L2 hf => ?_)
    refine j_istore_n hc dJ1_indexOf_4cfef_14 (Nat.le_of_ble_eq_true rfl) hf (fun v3 hf => ?_)
    refine j_iload_n hc dJ1_indexOf_4cfef_15 rfl ?_
    refine j_aload_n hc dJ1_indexOf_4cfef_16 rfl ?_
    refine j_alenC (v := (10 : Int32)) hc dJ1_indexOf_4cfef_17 cB0 cn_10 ?_
    refine j_callSI (As := [.int a3, .int (10 : Int32)]) hc dJ1_indexOf_4cfef_18 kw_646 mJ9_min_7cf53  rfl (by omega) (Nat.le_of_ble_eq_true rfl) (Nat.le_of_ble_eq_true rfl) ⟨Nat.le_refl _, Nat.le_refl _⟩ hf (fun v I' L' h => qJ9_min_7cf53 x.2.1 n d a3 (10 : Int32) I2 L2 v I' L' h) (fun v4 I4 L4 hf => ?_)
    refine j_istore_n hc dJ1_indexOf_4cfef_21 (Nat.le_of_ble_eq_true rfl) hf (fun v5 hf => ?_)
    refine j_iload_n hc dJ1_indexOf_4cfef_22 rfl ?_
    refine j_iload_n hc dJ1_indexOf_4cfef_23 rfl ?_
    refine j_icmp_lt (tgt := 29) hc dJ1_indexOf_4cfef_24 rfl hf (fun hf => ?_) (fun hf => ?_)
    · refine j_aload_n hc dJ1_indexOf_4cfef_29 rfl ?_
      refine j_iload_n hc dJ1_indexOf_4cfef_30 rfl ?_
      refine j_iload_n hc dJ1_indexOf_4cfef_31 rfl ?_
      refine j_iload_n hc dJ1_indexOf_4cfef_32 rfl ?_
      refine j_callSI (As := [.ref 1000011, .int a1, .int v3, .int v5]) hc dJ1_indexOf_4cfef_33 kw_649 mJ1_indexOfChar_4cfef  rfl (by omega) (Nat.le_of_ble_eq_true rfl) (Nat.le_of_ble_eq_true rfl) ⟨Nat.le_refl _, Nat.le_refl _⟩ hf (fun v I' L' h => qJ1_indexOfChar_4cfef_k11 x.2.1 n d a1 v3 v5 I4 L4 v I' L' h) (fun v6 I6 L6 hf => ?_)
      exact j_ireturn hc dJ1_indexOf_4cfef_36 rfl rfl hf
    · refine j_iconst (v := (-1 : Int32)) hc dJ1_indexOf_4cfef_27 ci_m1 ?_
      exact j_ireturn hc dJ1_indexOf_4cfef_28 rfl rfl hf
  · refine j_iconst (v := (-1 : Int32)) hc dJ1_indexOf_4cfef_7 ci_m1 ?_
    exact j_ireturn hc dJ1_indexOf_4cfef_8 rfl rfl hf

set_option maxRecDepth 100000 in
theorem qJ1_indexOf_4cfef_k11 (l : Launch) {al : Bool} (n d : Nat) (a1 : Int32) (a2 : Int32) (a3 : Int32) (I : am_I) (L : am_L) (r : Int32) (I' : am_I) (L' : am_L) (hf : fJ1_indexOf_4cfef_k11 n d a1 a2 a3 I L = some (r, I', L')) : am_C l yJ1_indexOf_4cfef cJ1_indexOf_4cfef 4 (some .int) (d + 2) [.ref 1000011, .int a1, .int a2, .int a3] (KC al) (RC al) I L (some (.int r)) I' L' := by
  exact am_intro (pfJ1_indexOf_4cfef) (fun _ _ => trivial) (Nat.le_of_ble_eq_true rfl) (fun x hl hc => by subst hl; exact j_sub (tJ1_indexOf_4cfef_k11 n d hc _ _ _ _ _ hf) (And.intro rfl (And.intro rfl (And.intro rfl (And.intro rfl (trivial))))))
set_option maxRecDepth 100000 in
def fJ0_indexOf_7cf53_k10 (n d : Nat) (a1 : Int32) (a2 : Int32) (I : am_I) (L : am_L) : Option (Int32 × am_I × am_L) :=
  am_b3 (fJ0_isLatin1_aae02_k10 n d I L) (fun v1 I1 L1 => if v1 = 0 then
    (none)
    else
    (am_b3 (fJ0_length_8abf5_k10 n d I1 L1) (fun v2 I2 L2 => am_b3 (fJ1_indexOf_4cfef_k11 n d a1 a2 v2 I2 L2) (fun v3 I3 L3 => some (v3, I3, L3)))))

set_option maxRecDepth 100000 in
set_option maxHeartbeats 4000000 in
theorem tJ0_indexOf_7cf53_k10 {x : am_X} {al : Bool} (n d : Nat) (hc : am_ok x cJ0_indexOf_7cf53 yJ0_indexOf_7cf53 3 (some .int) (d + 3) 0 0) {r : Int32} {I' : am_I} {L' : am_L} (a1 : Int32) (a2 : Int32) (I : am_I) (L : am_L) (hf : fJ0_indexOf_7cf53_k10 n d a1 a2 I L = some (r, I', L')) : am_J x (fun S => S = (some (.int r), (KC al), (RC al), I', L')) 0 [some (.ref 1000010), some (.int a1), some (.int a2)] [] (KC al) (RC al) I L 0 0 := by
  unfold fJ0_indexOf_7cf53_k10 at hf
  refine j_aload_n hc dJ0_indexOf_7cf53_0 rfl ?_
  refine j_callKI (t := 1000010) (As := []) hc dJ0_indexOf_7cf53_1 kw_623 mJ0_isLatin1_aae02 cQ1000010 rfl (by omega) (Nat.le_of_ble_eq_true rfl) (Nat.le_of_ble_eq_true rfl) ⟨Nat.le_refl _, Nat.le_refl _⟩ hf (fun v I' L' h => qJ0_isLatin1_aae02_k10 x.2.1 n d I L v I' L' h) (fun v1 I1 L1 hf => ?_)
  refine j_if_eq (tgt := 23) hc dJ0_indexOf_7cf53_4 rfl hf (fun hf => ?_) (fun hf => ?_)
  · exact (Option.some_ne_none _ hf.symm).elim
  · refine j_aload_n hc dJ0_indexOf_7cf53_7 rfl ?_
    refine j_getC (v := .ref 1000011) hc dJ0_indexOf_7cf53_8 kw_2138 cV1000010 ?_
    refine j_iload_n hc dJ0_indexOf_7cf53_11 rfl ?_
    refine j_iload_n hc dJ0_indexOf_7cf53_12 rfl ?_
    refine j_aload_n hc dJ0_indexOf_7cf53_13 rfl ?_
    refine j_callKI (t := 1000010) (As := []) hc dJ0_indexOf_7cf53_14 kw_629 mJ0_length_8abf5 cQ1000010 rfl (by omega) (Nat.le_of_ble_eq_true rfl) (Nat.le_of_ble_eq_true rfl) ⟨Nat.le_refl _, Nat.le_refl _⟩ hf (fun v I' L' h => qJ0_length_8abf5_k10 x.2.1 n d I1 L1 v I' L' h) (fun v2 I2 L2 hf => ?_)
    refine j_callSI (As := [.ref 1000011, .int a1, .int a2, .int v2]) hc dJ0_indexOf_7cf53_17 kw_637 mJ1_indexOf_4cfef  rfl (by omega) (Nat.le_of_ble_eq_true rfl) (Nat.le_of_ble_eq_true rfl) ⟨Nat.le_refl _, Nat.le_refl _⟩ hf (fun v I' L' h => qJ1_indexOf_4cfef_k11 x.2.1 n d a1 a2 v2 I2 L2 v I' L' h) (fun v3 I3 L3 hf => ?_)
    refine j_goto (tgt := 36) hc dJ0_indexOf_7cf53_20 rfl ?_
    exact j_ireturn hc dJ0_indexOf_7cf53_36 rfl rfl hf

set_option maxRecDepth 100000 in
theorem qJ0_indexOf_7cf53_k10 (l : Launch) {al : Bool} (n d : Nat) (a1 : Int32) (a2 : Int32) (I : am_I) (L : am_L) (r : Int32) (I' : am_I) (L' : am_L) (hf : fJ0_indexOf_7cf53_k10 n d a1 a2 I L = some (r, I', L')) : am_C l yJ0_indexOf_7cf53 cJ0_indexOf_7cf53 3 (some .int) (d + 3) [.ref 1000010, .int a1, .int a2] (KC al) (RC al) I L (some (.int r)) I' L' := by
  exact am_intro (pfJ0_indexOf_7cf53) (fun _ _ => trivial) (Nat.le_of_ble_eq_true rfl) (fun x hl hc => by subst hl; exact j_sub (tJ0_indexOf_7cf53_k10 n d hc _ _ _ _ hf) (And.intro rfl (And.intro rfl (And.intro rfl (trivial)))))
set_option maxRecDepth 100000 in
def fJ0_indexOf_0f7a4_k10 (n d : Nat) (a1 : Int32) (I : am_I) (L : am_L) : Option (Int32 × am_I × am_L) :=
  am_b3 (fJ0_indexOf_7cf53_k10 n d a1 (0 : Int32) I L) (fun v1 I1 L1 => some (v1, I1, L1))

set_option maxRecDepth 100000 in
set_option maxHeartbeats 4000000 in
theorem tJ0_indexOf_0f7a4_k10 {x : am_X} {al : Bool} (n d : Nat) (hc : am_ok x cJ0_indexOf_0f7a4 yJ0_indexOf_0f7a4 2 (some .int) (d + 4) 0 0) {r : Int32} {I' : am_I} {L' : am_L} (a1 : Int32) (I : am_I) (L : am_L) (hf : fJ0_indexOf_0f7a4_k10 n d a1 I L = some (r, I', L')) : am_J x (fun S => S = (some (.int r), (KC al), (RC al), I', L')) 0 [some (.ref 1000010), some (.int a1)] [] (KC al) (RC al) I L 0 0 := by
  unfold fJ0_indexOf_0f7a4_k10 at hf
  refine j_aload_n hc dJ0_indexOf_0f7a4_0 rfl ?_
  refine j_iload_n hc dJ0_indexOf_0f7a4_1 rfl ?_
  refine j_iconst (v := (0 : Int32)) hc dJ0_indexOf_0f7a4_2 ci_0 ?_
  refine j_callKI (t := 1000010) (As := [.int a1, .int (0 : Int32)]) hc dJ0_indexOf_0f7a4_3 kw_619 mJ0_indexOf_7cf53 cQ1000010 rfl (by omega) (Nat.le_of_ble_eq_true rfl) (Nat.le_of_ble_eq_true rfl) ⟨Nat.le_refl _, Nat.le_refl _⟩ hf (fun v I' L' h => qJ0_indexOf_7cf53_k10 x.2.1 n d a1 (0 : Int32) I L v I' L' h) (fun v1 I1 L1 hf => ?_)
  exact j_ireturn hc dJ0_indexOf_0f7a4_6 rfl rfl hf

set_option maxRecDepth 100000 in
theorem qJ0_indexOf_0f7a4_k10 (l : Launch) {al : Bool} (n d : Nat) (a1 : Int32) (I : am_I) (L : am_L) (r : Int32) (I' : am_I) (L' : am_L) (hf : fJ0_indexOf_0f7a4_k10 n d a1 I L = some (r, I', L')) : am_C l yJ0_indexOf_0f7a4 cJ0_indexOf_0f7a4 2 (some .int) (d + 4) [.ref 1000010, .int a1] (KC al) (RC al) I L (some (.int r)) I' L' := by
  exact am_intro (pfJ0_indexOf_0f7a4) (fun _ _ => trivial) (Nat.le_of_ble_eq_true rfl) (fun x hl hc => by subst hl; exact j_sub (tJ0_indexOf_0f7a4_k10 n d hc _ _ _ hf) (And.intro rfl (And.intro rfl (trivial))))
set_option maxRecDepth 100000 in
def fX8_digitAt_b26 (n d : Nat) (s0 : Int32) (a1 : Int32) (I : am_I) (L : am_L) : Option (Int32 × am_I × am_L) :=
  am_lt s0 (fun v1 => if v1 = 0 then
    (some ((0 : Int32), I, L))
    else
    (am_ck a1 240 (am_lt (I 2 (a1).toNatClampNeg) (fun v2 => if v2 < (48 : Int32) then
      (some ((0 : Int32), I, L))
      else
      (am_ck a1 240 (am_lt (I 2 (a1).toNatClampNeg) (fun v3 => if (57 : Int32) < v3 then
        (some ((0 : Int32), I, L))
        else
        (some ((1 : Int32), I, L)))))))))

set_option maxRecDepth 100000 in
set_option maxHeartbeats 4000000 in
theorem tX8_digitAt_b26 {x : am_X} {al : Bool} (n d : Nat) (hc : am_ok x cX8_digitAt yX8_digitAt 3 (some .boolean) (d + 1) 0 0) {r : Int32} {I' : am_I} {L' : am_L} (s0 : Int32) (a1 : Int32) (I : am_I) (L : am_L) (hf : fX8_digitAt_b26 n d s0 a1 I L = some (r, I', L')) : am_J x (fun S => S = (some (.int r), (KC al), (RC al), I', L')) 26 [some (.ref 1), some (.int a1), none] [.int s0] (KC al) (RC al) I L 0 0 := by
  unfold fX8_digitAt_b26 at hf
  refine j_istore_n hc dX8_digitAt_26 (Nat.le_of_ble_eq_true rfl) hf (fun v1 hf => ?_)
  refine j_iload_n hc dX8_digitAt_27 rfl ?_
  refine j_if_eq (tgt := 57) hc dX8_digitAt_28 rfl hf (fun hf => ?_) (fun hf => ?_)
  · refine j_iconst (v := (0 : Int32)) hc dX8_digitAt_57 ci_0 ?_
    exact j_zret hc dX8_digitAt_58 rfl rfl (Or.inl rfl) hf
  · refine j_aload_n hc dX8_digitAt_31 rfl ?_
    refine j_getR (u := 2) hc dX8_digitAt_32 (fgC_X8_11_1 _) (rC_1_0 _) ?_
    refine j_iload_n hc dX8_digitAt_35 rfl ?_
    refine j_iaload (n := 240) hc dX8_digitAt_36 (kC_2 _) hf (fun v2 hf => ?_)
    refine j_bipush (v := (48 : Int32)) hc dX8_digitAt_37 cb_48 ?_
    refine j_icmp_lt (tgt := 57) hc dX8_digitAt_39 rfl hf (fun hf => ?_) (fun hf => ?_)
    · refine j_iconst (v := (0 : Int32)) hc dX8_digitAt_57 ci_0 ?_
      exact j_zret hc dX8_digitAt_58 rfl rfl (Or.inl rfl) hf
    · refine j_aload_n hc dX8_digitAt_42 rfl ?_
      refine j_getR (u := 2) hc dX8_digitAt_43 (fgC_X8_11_1 _) (rC_1_0 _) ?_
      refine j_iload_n hc dX8_digitAt_46 rfl ?_
      refine j_iaload (n := 240) hc dX8_digitAt_47 (kC_2 _) hf (fun v3 hf => ?_)
      refine j_bipush (v := (57 : Int32)) hc dX8_digitAt_48 cb_57 ?_
      refine j_icmp_gt (tgt := 57) hc dX8_digitAt_50 rfl hf (fun hf => ?_) (fun hf => ?_)
      · refine j_iconst (v := (0 : Int32)) hc dX8_digitAt_57 ci_0 ?_
        exact j_zret hc dX8_digitAt_58 rfl rfl (Or.inl rfl) hf
      · refine j_iconst (v := (1 : Int32)) hc dX8_digitAt_53 ci_1 ?_
        refine j_goto (tgt := 58) hc dX8_digitAt_54 rfl ?_
        exact j_zret hc dX8_digitAt_58 rfl rfl (Or.inr rfl) hf

set_option maxRecDepth 100000 in
def fX8_digitAt_b25 (n d : Nat) (a1 : Int32) (I : am_I) (L : am_L) : Option (Int32 × am_I × am_L) :=
  fX8_digitAt_b26 n d (0 : Int32) a1 I L

set_option maxRecDepth 100000 in
set_option maxHeartbeats 4000000 in
theorem tX8_digitAt_b25 {x : am_X} {al : Bool} (n d : Nat) (hc : am_ok x cX8_digitAt yX8_digitAt 3 (some .boolean) (d + 1) 0 0) {r : Int32} {I' : am_I} {L' : am_L} (a1 : Int32) (I : am_I) (L : am_L) (hf : fX8_digitAt_b25 n d a1 I L = some (r, I', L')) : am_J x (fun S => S = (some (.int r), (KC al), (RC al), I', L')) 25 [some (.ref 1), some (.int a1), none] [] (KC al) (RC al) I L 0 0 := by
  unfold fX8_digitAt_b25 at hf
  refine j_iconst (v := (0 : Int32)) hc dX8_digitAt_25 ci_0 ?_
  exact j_sub (tX8_digitAt_b26 n d hc _ _ _ _ hf) (And.intro rfl (And.intro rfl (trivial)))

set_option maxRecDepth 100000 in
def fX8_digitAt (n d : Nat) (a1 : Int32) (I : am_I) (L : am_L) : Option (Int32 × am_I × am_L) :=
  if a1 < 0 then
    (fX8_digitAt_b25 n d a1 I L)
    else
    (if (I 1 1) ≤ a1 then
      (fX8_digitAt_b25 n d a1 I L)
      else
      (if (240 : Int32) ≤ a1 then
        (fX8_digitAt_b25 n d a1 I L)
        else
        (fX8_digitAt_b26 n d (1 : Int32) a1 I L)))

set_option maxRecDepth 100000 in
set_option maxHeartbeats 4000000 in
theorem tX8_digitAt {x : am_X} {al : Bool} (n d : Nat) (hc : am_ok x cX8_digitAt yX8_digitAt 3 (some .boolean) (d + 1) 0 0) {r : Int32} {I' : am_I} {L' : am_L} (a1 : Int32) (I : am_I) (L : am_L) (hf : fX8_digitAt n d a1 I L = some (r, I', L')) : am_J x (fun S => S = (some (.int r), (KC al), (RC al), I', L')) 0 [some (.ref 1), some (.int a1), none] [] (KC al) (RC al) I L 0 0 := by
  unfold fX8_digitAt at hf
  refine j_iload_n hc dX8_digitAt_0 rfl ?_
  refine j_if_lt (tgt := 25) hc dX8_digitAt_1 rfl hf (fun hf => ?_) (fun hf => ?_)
  · exact j_sub (tX8_digitAt_b25 n d hc _ _ _ hf) (And.intro rfl (And.intro rfl (trivial)))
  · refine j_iload_n hc dX8_digitAt_4 rfl ?_
    refine j_aload_n hc dX8_digitAt_5 rfl ?_
    refine j_getI hc dX8_digitAt_6 (fgC_X8_15_1 _) ?_
    refine j_icmp_ge (tgt := 25) hc dX8_digitAt_9 rfl hf (fun hf => ?_) (fun hf => ?_)
    · exact j_sub (tX8_digitAt_b25 n d hc _ _ _ hf) (And.intro rfl (And.intro rfl (trivial)))
    · refine j_iload_n hc dX8_digitAt_12 rfl ?_
      refine j_aload_n hc dX8_digitAt_13 rfl ?_
      refine j_getR (u := 2) hc dX8_digitAt_14 (fgC_X8_11_1 _) (rC_1_0 _) ?_
      refine j_alen0 (v := (240 : Int32)) hc dX8_digitAt_17 (kC_2 _) cn_240 ?_
      refine j_icmp_ge (tgt := 25) hc dX8_digitAt_18 rfl hf (fun hf => ?_) (fun hf => ?_)
      · exact j_sub (tX8_digitAt_b25 n d hc _ _ _ hf) (And.intro rfl (And.intro rfl (trivial)))
      · refine j_iconst (v := (1 : Int32)) hc dX8_digitAt_21 ci_1 ?_
        refine j_goto (tgt := 26) hc dX8_digitAt_22 rfl ?_
        exact j_sub (tX8_digitAt_b26 n d hc _ _ _ _ hf) (And.intro rfl (And.intro rfl (trivial)))

set_option maxRecDepth 100000 in
theorem qX8_digitAt (l : Launch) {al : Bool} (n d : Nat) (a1 : Int32) (I : am_I) (L : am_L) (r : Int32) (I' : am_I) (L' : am_L) (hf : fX8_digitAt n d a1 I L = some (r, I', L')) : am_C l yX8_digitAt cX8_digitAt 3 (some .boolean) (d + 1) [.ref 1, .int a1] (KC al) (RC al) I L (some (.int r)) I' L' := by
  exact am_intro (plainFor_of_name plX8) (fun _ _ => trivial) (Nat.le_of_ble_eq_true rfl) (fun x hl hc => by subst hl; exact j_sub (tX8_digitAt n d hc _ _ _ hf) (And.intro rfl (And.intro rfl (trivial))))
set_option maxRecDepth 100000 in
def fX10_readNumber_b87 (n d : Nat) (a1 : Int32) (a2 : Int32) (I : am_I) (L : am_L) : Option (Int32 × am_I × am_L) :=
  am_b3 (fX8_digitAt n d ((I 25 4) + (1 : Int32)) I L) (fun v1 I1 L1 => if v1 = 0 then
    (am_ck a1 10 (am_lt (am_cL (a1).toNatClampNeg) (fun v2 => if a2 < v2 then
      (some ((0 : Int32), I1, L1))
      else
      (am_ck a1 10 (am_lt (am_cM (a1).toNatClampNeg) (fun v3 => if a2 ≤ v3 then
        (am_ck a1 10 (am_lt (am_up I1 26 (a1).toNatClampNeg a2) (fun I4 => am_b2 (fX10_goOn n d I4 L1) (fun I5 L5 => some ((1 : Int32), I5, L5)))))
        else
        (some ((0 : Int32), I1, L1))))))))
    else
    (am_lt (am_up I1 25 4 ((I1 25 4) + (1 : Int32))) (fun I6 => some ((0 : Int32), I6, L1))))

set_option maxRecDepth 100000 in
set_option maxHeartbeats 4000000 in
theorem tX10_readNumber_b87 {x : am_X} {al : Bool} (n d : Nat) (hc : am_ok x cX10_readNumber yX10_readNumber 3 (some .boolean) (d + 3) 0 0) {r : Int32} {I' : am_I} {L' : am_L} (a1 : Int32) (a2 : Int32) (I : am_I) (L : am_L) (hf : fX10_readNumber_b87 n d a1 a2 I L = some (r, I', L')) : am_J x (fun S => S = (some (.int r), (KC al), (RC al), I', L')) 87 [some (.ref 25), some (.int a1), some (.int a2)] [] (KC al) (RC al) I L 0 0 := by
  unfold fX10_readNumber_b87 at hf
  refine j_aload_n hc dX10_readNumber_87 rfl ?_
  refine j_getR (u := 1) hc dX10_readNumber_88 (fgC_X10_26_25 _) (rC_25_0 _) ?_
  refine j_aload_n hc dX10_readNumber_91 rfl ?_
  refine j_getI hc dX10_readNumber_92 (fgC_X10_19_25 _) ?_
  refine j_iconst (v := (1 : Int32)) hc dX10_readNumber_95 ci_1 ?_
  refine j_iadd hc dX10_readNumber_96 ?_
  refine j_callVI (t := 1) (As := [.int ((I 25 4) + (1 : Int32))]) hc dX10_readNumber_97 kw_705 mX8_digitAt (kC_1 _) clX8 rfl (by omega) (Nat.le_of_ble_eq_true rfl) (Nat.le_of_ble_eq_true rfl) ⟨Nat.le_refl _, Nat.le_refl _⟩ hf (fun v I' L' h => qX8_digitAt x.2.1 n d ((I 25 4) + (1 : Int32)) I L v I' L' h) (fun v1 I1 L1 hf => ?_)
  refine j_if_eq (tgt := 115) hc dX10_readNumber_100 rfl hf (fun hf => ?_) (fun hf => ?_)
  · refine j_iload_n hc dX10_readNumber_115 rfl ?_
    refine j_getst (v := .ref 1000002) hc dX10_readNumber_116 kw_709 cZLEAST ?_
    refine j_iload_n hc dX10_readNumber_119 rfl ?_
    refine j_ialdC (t := 1000002) (n := 10) (f := am_cL) hc dX10_readNumber_120 cTL hf (fun v2 hf => ?_)
    refine j_icmp_lt (tgt := 133) hc dX10_readNumber_121 rfl hf (fun hf => ?_) (fun hf => ?_)
    · refine j_iconst (v := (0 : Int32)) hc dX10_readNumber_133 ci_0 ?_
      exact j_zret hc dX10_readNumber_134 rfl rfl (Or.inl rfl) hf
    · refine j_iload_n hc dX10_readNumber_124 rfl ?_
      refine j_getst (v := .ref 1000003) hc dX10_readNumber_125 kw_711 cZMOST ?_
      refine j_iload_n hc dX10_readNumber_128 rfl ?_
      refine j_ialdC (t := 1000003) (n := 10) (f := am_cM) hc dX10_readNumber_129 cTM hf (fun v3 hf => ?_)
      refine j_icmp_le (tgt := 135) hc dX10_readNumber_130 rfl hf (fun hf => ?_) (fun hf => ?_)
      · refine j_aload_n hc dX10_readNumber_135 rfl ?_
        refine j_getR (u := 26) hc dX10_readNumber_136 (fgC_X10_11_25 _) (rC_25_2 _) ?_
        refine j_iload_n hc dX10_readNumber_139 rfl ?_
        refine j_iload_n hc dX10_readNumber_140 rfl ?_
        refine j_iastore (n := 10) hc dX10_readNumber_141 (kC_26 _) hf (fun I4 hf => ?_)
        refine j_aload_n hc dX10_readNumber_142 rfl ?_
        refine j_callVV (t := 25) (As := []) hc dX10_readNumber_143 kw_600 mX10_goOn (kC_25 _) clX10 rfl (by omega) (Nat.le_of_ble_eq_true rfl) (Nat.le_of_ble_eq_true rfl) ⟨Nat.le_refl _, Nat.le_refl _⟩ hf (fun I' L' h => qX10_goOn x.2.1 n d I4 L1 I' L' h) (fun I5 L5 hf => ?_)
        refine j_iconst (v := (1 : Int32)) hc dX10_readNumber_146 ci_1 ?_
        exact j_zret hc dX10_readNumber_147 rfl rfl (Or.inr rfl) hf
      · refine j_iconst (v := (0 : Int32)) hc dX10_readNumber_133 ci_0 ?_
        exact j_zret hc dX10_readNumber_134 rfl rfl (Or.inl rfl) hf
  · refine j_aload_n hc dX10_readNumber_103 rfl ?_
    refine j_dup hc dX10_readNumber_104 rfl ?_
    refine j_getI hc dX10_readNumber_105 (fgC_X10_19_25 _) ?_
    refine j_iconst (v := (1 : Int32)) hc dX10_readNumber_108 ci_1 ?_
    refine j_iadd hc dX10_readNumber_109 ?_
    refine j_putI hc dX10_readNumber_110 (fpC_X10_19_25 _) rfl rfl hf (fun I6 hf => ?_)
    refine j_iconst (v := (0 : Int32)) hc dX10_readNumber_113 ci_0 ?_
    exact j_zret hc dX10_readNumber_114 rfl rfl (Or.inl rfl) hf

set_option maxRecDepth 100000 in
def fX10_readNumber (n d : Nat) (a1 : Int32) (I : am_I) (L : am_L) : Option (Int32 × am_I × am_L) :=
  am_b3 (fX8_digitAt n d (I 25 4) I L) (fun v1 I1 L1 => if v1 = 0 then
    (some ((0 : Int32), I1, L1))
    else
    (if a1 < 0 then
      (some ((0 : Int32), I1, L1))
      else
      (if a1 < (10 : Int32) then
        (am_b3 (fX8_at n d (I1 25 4) I1 L1) (fun v2 I2 L2 => am_lt (v2 - (48 : Int32)) (fun v3 => am_b3 (fX8_digitAt n d ((I2 25 4) + (1 : Int32)) I2 L2) (fun v4 I4 L4 => if v4 = 0 then
          (fX10_readNumber_b87 n d a1 v3 I4 L4)
          else
          (am_lt (am_up I4 25 4 ((I4 25 4) + (1 : Int32))) (fun I5 => am_b3 (fX8_at n d (I5 25 4) I5 L4) (fun v6 I6 L6 => am_lt (((v3 * (10 : Int32)) + v6) - (48 : Int32)) (fun v7 => fX10_readNumber_b87 n d a1 v7 I6 L6))))))))
        else
        (some ((0 : Int32), I1, L1)))))

set_option maxRecDepth 100000 in
set_option maxHeartbeats 4000000 in
theorem tX10_readNumber {x : am_X} {al : Bool} (n d : Nat) (hc : am_ok x cX10_readNumber yX10_readNumber 3 (some .boolean) (d + 3) 0 0) {r : Int32} {I' : am_I} {L' : am_L} (a1 : Int32) (I : am_I) (L : am_L) (hf : fX10_readNumber n d a1 I L = some (r, I', L')) : am_J x (fun S => S = (some (.int r), (KC al), (RC al), I', L')) 0 [some (.ref 25), some (.int a1), none] [] (KC al) (RC al) I L 0 0 := by
  unfold fX10_readNumber at hf
  refine j_aload_n hc dX10_readNumber_0 rfl ?_
  refine j_getR (u := 1) hc dX10_readNumber_1 (fgC_X10_26_25 _) (rC_25_0 _) ?_
  refine j_aload_n hc dX10_readNumber_4 rfl ?_
  refine j_getI hc dX10_readNumber_5 (fgC_X10_19_25 _) ?_
  refine j_callVI (t := 1) (As := [.int (I 25 4)]) hc dX10_readNumber_8 kw_705 mX8_digitAt (kC_1 _) clX8 rfl (by omega) (Nat.le_of_ble_eq_true rfl) (Nat.le_of_ble_eq_true rfl) ⟨Nat.le_refl _, Nat.le_refl _⟩ hf (fun v I' L' h => qX8_digitAt x.2.1 n d (I 25 4) I L v I' L' h) (fun v1 I1 L1 hf => ?_)
  refine j_if_eq (tgt := 24) hc dX10_readNumber_11 rfl hf (fun hf => ?_) (fun hf => ?_)
  · refine j_iconst (v := (0 : Int32)) hc dX10_readNumber_24 ci_0 ?_
    exact j_zret hc dX10_readNumber_25 rfl rfl (Or.inl rfl) hf
  · refine j_iload_n hc dX10_readNumber_14 rfl ?_
    refine j_if_lt (tgt := 24) hc dX10_readNumber_15 rfl hf (fun hf => ?_) (fun hf => ?_)
    · refine j_iconst (v := (0 : Int32)) hc dX10_readNumber_24 ci_0 ?_
      exact j_zret hc dX10_readNumber_25 rfl rfl (Or.inl rfl) hf
    · refine j_iload_n hc dX10_readNumber_18 rfl ?_
      refine j_bipush (v := (10 : Int32)) hc dX10_readNumber_19 cb_10 ?_
      refine j_icmp_lt (tgt := 26) hc dX10_readNumber_21 rfl hf (fun hf => ?_) (fun hf => ?_)
      · refine j_aload_n hc dX10_readNumber_26 rfl ?_
        refine j_getR (u := 1) hc dX10_readNumber_27 (fgC_X10_26_25 _) (rC_25_0 _) ?_
        refine j_aload_n hc dX10_readNumber_30 rfl ?_
        refine j_getI hc dX10_readNumber_31 (fgC_X10_19_25 _) ?_
        refine j_callVI (t := 1) (As := [.int (I1 25 4)]) hc dX10_readNumber_34 kw_589 mX8_at (kC_1 _) clX8 rfl (by omega) (Nat.le_of_ble_eq_true rfl) (Nat.le_of_ble_eq_true rfl) ⟨Nat.le_refl _, Nat.le_refl _⟩ hf (fun v I' L' h => qX8_at x.2.1 n d (I1 25 4) I1 L1 v I' L' h) (fun v2 I2 L2 hf => ?_)
        refine j_bipush (v := (48 : Int32)) hc dX10_readNumber_37 cb_48 ?_
        refine j_isub hc dX10_readNumber_39 ?_
        refine j_istore_n hc dX10_readNumber_40 (Nat.le_of_ble_eq_true rfl) hf (fun v3 hf => ?_)
        refine j_aload_n hc dX10_readNumber_41 rfl ?_
        refine j_getR (u := 1) hc dX10_readNumber_42 (fgC_X10_26_25 _) (rC_25_0 _) ?_
        refine j_aload_n hc dX10_readNumber_45 rfl ?_
        refine j_getI hc dX10_readNumber_46 (fgC_X10_19_25 _) ?_
        refine j_iconst (v := (1 : Int32)) hc dX10_readNumber_49 ci_1 ?_
        refine j_iadd hc dX10_readNumber_50 ?_
        refine j_callVI (t := 1) (As := [.int ((I2 25 4) + (1 : Int32))]) hc dX10_readNumber_51 kw_705 mX8_digitAt (kC_1 _) clX8 rfl (by omega) (Nat.le_of_ble_eq_true rfl) (Nat.le_of_ble_eq_true rfl) ⟨Nat.le_refl _, Nat.le_refl _⟩ hf (fun v I' L' h => qX8_digitAt x.2.1 n d ((I2 25 4) + (1 : Int32)) I2 L2 v I' L' h) (fun v4 I4 L4 hf => ?_)
        refine j_if_eq (tgt := 87) hc dX10_readNumber_54 rfl hf (fun hf => ?_) (fun hf => ?_)
        · exact j_sub (tX10_readNumber_b87 n d hc _ _ _ _ hf) (And.intro rfl (And.intro rfl (And.intro rfl (trivial))))
        · refine j_aload_n hc dX10_readNumber_57 rfl ?_
          refine j_dup hc dX10_readNumber_58 rfl ?_
          refine j_getI hc dX10_readNumber_59 (fgC_X10_19_25 _) ?_
          refine j_iconst (v := (1 : Int32)) hc dX10_readNumber_62 ci_1 ?_
          refine j_iadd hc dX10_readNumber_63 ?_
          refine j_putI hc dX10_readNumber_64 (fpC_X10_19_25 _) rfl rfl hf (fun I5 hf => ?_)
          refine j_iload_n hc dX10_readNumber_67 rfl ?_
          refine j_bipush (v := (10 : Int32)) hc dX10_readNumber_68 cb_10 ?_
          refine j_imul hc dX10_readNumber_70 ?_
          refine j_aload_n hc dX10_readNumber_71 rfl ?_
          refine j_getR (u := 1) hc dX10_readNumber_72 (fgC_X10_26_25 _) (rC_25_0 _) ?_
          refine j_aload_n hc dX10_readNumber_75 rfl ?_
          refine j_getI hc dX10_readNumber_76 (fgC_X10_19_25 _) ?_
          refine j_callVI (t := 1) (As := [.int (I5 25 4)]) hc dX10_readNumber_79 kw_589 mX8_at (kC_1 _) clX8 rfl (by omega) (Nat.le_of_ble_eq_true rfl) (Nat.le_of_ble_eq_true rfl) ⟨Nat.le_refl _, Nat.le_refl _⟩ hf (fun v I' L' h => qX8_at x.2.1 n d (I5 25 4) I5 L4 v I' L' h) (fun v6 I6 L6 hf => ?_)
          refine j_iadd hc dX10_readNumber_82 ?_
          refine j_bipush (v := (48 : Int32)) hc dX10_readNumber_83 cb_48 ?_
          refine j_isub hc dX10_readNumber_85 ?_
          refine j_istore_n hc dX10_readNumber_86 (Nat.le_of_ble_eq_true rfl) hf (fun v7 hf => ?_)
          exact j_sub (tX10_readNumber_b87 n d hc _ _ _ _ hf) (And.intro rfl (And.intro rfl (And.intro rfl (trivial))))
      · refine j_iconst (v := (0 : Int32)) hc dX10_readNumber_24 ci_0 ?_
        exact j_zret hc dX10_readNumber_25 rfl rfl (Or.inl rfl) hf

set_option maxRecDepth 100000 in
theorem qX10_readNumber (l : Launch) {al : Bool} (n d : Nat) (a1 : Int32) (I : am_I) (L : am_L) (r : Int32) (I' : am_I) (L' : am_L) (hf : fX10_readNumber n d a1 I L = some (r, I', L')) : am_C l yX10_readNumber cX10_readNumber 3 (some .boolean) (d + 3) [.ref 25, .int a1] (KC al) (RC al) I L (some (.int r)) I' L' := by
  exact am_intro (plainFor_of_name plX10) (fun _ _ => trivial) (Nat.le_of_ble_eq_true rfl) (fun x hl hc => by subst hl; exact j_sub (tX10_readNumber n d hc _ _ _ hf) (And.intro rfl (And.intro rfl (trivial))))
set_option maxRecDepth 100000 in
def fX10_readItems_b21w (n d : Nat) (k21 : Int32 → Int32 → Int32 → am_I → am_L → Option (Int32 × am_I × am_L)) (a1 : Int32) (a2 : Int32) (a3 : Int32) (I : am_I) (L : am_L) : Option (Int32 × am_I × am_L) :=
  if (240 : Int32) < a3 then
    (some ((0 : Int32), I, L))
    else
    (am_b3 (fX8_at n d (I 25 4) I L) (fun v1 I1 L1 => am_lt v1 (fun v2 => if v2 = (-1 : Int32) then
      (some ((1 : Int32), I1, L1))
      else
      (if v2 = (59 : Int32) then
        (some ((1 : Int32), I1, L1))
        else
        (am_b3 (fJ0_indexOf_0f7a4_k10 n d ((v2.toUInt32 % 65536).toInt32) I1 L1) (fun v3 I3 L3 => am_lt v3 (fun v4 => if v4 < a1 then
          (some ((0 : Int32), I3, L3))
          else
          (if a2 ≤ v4 then
            (some ((0 : Int32), I3, L3))
            else
            (if (((I3 25 3) >>> (v4 &&& 31)) &&& (1 : Int32)) = 0 then
              (am_lt (am_up I3 25 3 ((I3 25 3) ||| ((1 : Int32) <<< (v4 &&& 31)))) (fun I5 => am_b2 (fX10_goOn n d I5 L3) (fun I6 L6 => am_b3 (fX10_readNumber n d v4 I6 L6) (fun v7 I7 L7 => if v7 = 0 then
                (some ((0 : Int32), I7, L7))
                else
                (am_lt (a3 + (1 : Int32)) (fun v8 => k21 a1 a2 v8 I7 L7))))))
              else
              (some ((0 : Int32), I3, L3)))))))))))

set_option maxRecDepth 100000 in
set_option maxHeartbeats 4000000 in
theorem tX10_readItems_b21w {x : am_X} {al : Bool} (n d : Nat) (hc : am_ok x cX10_readItems yX10_readItems 6 (some .boolean) (d + 5) 0 0) {r : Int32} {I' : am_I} {L' : am_L} (k21 : Int32 → Int32 → Int32 → am_I → am_L → Option (Int32 × am_I × am_L)) (hk21 : ∀ (a1 : Int32) (a2 : Int32) (a3 : Int32) (I : am_I) (L : am_L), k21 a1 a2 a3 I L = some (r, I', L') → am_J x (fun S => S = (some (.int r), (KC al), (RC al), I', L')) 21 [some (.ref 25), some (.int a1), some (.int a2), some (.int a3), none, none] [] (KC al) (RC al) I L 0 0) (a1 : Int32) (a2 : Int32) (a3 : Int32) (I : am_I) (L : am_L) (hf : fX10_readItems_b21w n d k21 a1 a2 a3 I L = some (r, I', L')) : am_J x (fun S => S = (some (.int r), (KC al), (RC al), I', L')) 21 [some (.ref 25), some (.int a1), some (.int a2), some (.int a3), none, none] [] (KC al) (RC al) I L 0 0 := by
  unfold fX10_readItems_b21w at hf
  refine j_iload_n hc dX10_readItems_21 rfl ?_
  refine j_sipush (v := (240 : Int32)) hc dX10_readItems_22 cs_240 ?_
  refine j_icmp_gt (tgt := 126) hc dX10_readItems_25 rfl hf (fun hf => ?_) (fun hf => ?_)
  · refine j_iconst (v := (0 : Int32)) hc dX10_readItems_126 ci_0 ?_
    exact j_zret hc dX10_readItems_127 rfl rfl (Or.inl rfl) hf
  · refine j_aload_n hc dX10_readItems_28 rfl ?_
    refine j_getR (u := 1) hc dX10_readItems_29 (fgC_X10_26_25 _) (rC_25_0 _) ?_
    refine j_aload_n hc dX10_readItems_32 rfl ?_
    refine j_getI hc dX10_readItems_33 (fgC_X10_19_25 _) ?_
    refine j_callVI (t := 1) (As := [.int (I 25 4)]) hc dX10_readItems_36 kw_589 mX8_at (kC_1 _) clX8 rfl (by omega) (Nat.le_of_ble_eq_true rfl) (Nat.le_of_ble_eq_true rfl) ⟨Nat.le_refl _, Nat.le_refl _⟩ hf (fun v I' L' h => qX8_at x.2.1 n d (I 25 4) I L v I' L' h) (fun v1 I1 L1 hf => ?_)
    refine j_istore hc dX10_readItems_39 (Nat.le_of_ble_eq_true rfl) hf (fun v2 hf => ?_)
    refine j_iload hc dX10_readItems_41 rfl ?_
    refine j_iconst (v := (-1 : Int32)) hc dX10_readItems_43 ci_m1 ?_
    refine j_icmp_eq (tgt := 54) hc dX10_readItems_44 rfl hf (fun hf => ?_) (fun hf => ?_)
    · refine j_iconst (v := (1 : Int32)) hc dX10_readItems_54 ci_1 ?_
      exact j_zret hc dX10_readItems_55 rfl rfl (Or.inr rfl) hf
    · refine j_iload hc dX10_readItems_47 rfl ?_
      refine j_bipush (v := (59 : Int32)) hc dX10_readItems_49 cb_59 ?_
      refine j_icmp_ne (tgt := 56) hc dX10_readItems_51 rfl hf (fun hf => ?_) (fun hf => ?_)
      · refine j_ldcS (t := 1000010) hc dX10_readItems_56 cS1000010 ?_
        refine j_iload hc dX10_readItems_58 rfl ?_
        refine j_i2c hc dX10_readItems_60 ?_
        refine j_callKI (t := 1000010) (As := [.int (v2.toUInt32 % 65536).toInt32]) hc dX10_readItems_61 kw_615 mJ0_indexOf_0f7a4 cQ1000010 rfl (by omega) (Nat.le_of_ble_eq_true rfl) (Nat.le_of_ble_eq_true rfl) ⟨Nat.le_refl _, Nat.le_refl _⟩ hf (fun v I' L' h => qJ0_indexOf_0f7a4_k10 x.2.1 n d ((v2.toUInt32 % 65536).toInt32) I1 L1 v I' L' h) (fun v3 I3 L3 hf => ?_)
        refine j_istore hc dX10_readItems_64 (Nat.le_of_ble_eq_true rfl) hf (fun v4 hf => ?_)
        refine j_iload hc dX10_readItems_66 rfl ?_
        refine j_iload_n hc dX10_readItems_68 rfl ?_
        refine j_icmp_lt (tgt := 90) hc dX10_readItems_69 rfl hf (fun hf => ?_) (fun hf => ?_)
        · refine j_iconst (v := (0 : Int32)) hc dX10_readItems_90 ci_0 ?_
          exact j_zret hc dX10_readItems_91 rfl rfl (Or.inl rfl) hf
        · refine j_iload hc dX10_readItems_72 rfl ?_
          refine j_iload_n hc dX10_readItems_74 rfl ?_
          refine j_icmp_ge (tgt := 90) hc dX10_readItems_75 rfl hf (fun hf => ?_) (fun hf => ?_)
          · refine j_iconst (v := (0 : Int32)) hc dX10_readItems_90 ci_0 ?_
            exact j_zret hc dX10_readItems_91 rfl rfl (Or.inl rfl) hf
          · refine j_aload_n hc dX10_readItems_78 rfl ?_
            refine j_getI hc dX10_readItems_79 (fgC_X10_15_25 _) ?_
            refine j_iload hc dX10_readItems_82 rfl ?_
            refine j_ishr hc dX10_readItems_84 ?_
            refine j_iconst (v := (1 : Int32)) hc dX10_readItems_85 ci_1 ?_
            refine j_iand hc dX10_readItems_86 ?_
            refine j_if_eq (tgt := 92) hc dX10_readItems_87 rfl hf (fun hf => ?_) (fun hf => ?_)
            · refine j_aload_n hc dX10_readItems_92 rfl ?_
              refine j_dup hc dX10_readItems_93 rfl ?_
              refine j_getI hc dX10_readItems_94 (fgC_X10_15_25 _) ?_
              refine j_iconst (v := (1 : Int32)) hc dX10_readItems_97 ci_1 ?_
              refine j_iload hc dX10_readItems_98 rfl ?_
              refine j_ishl hc dX10_readItems_100 ?_
              refine j_ior hc dX10_readItems_101 ?_
              refine j_putI hc dX10_readItems_102 (fpC_X10_15_25 _) rfl rfl hf (fun I5 hf => ?_)
              refine j_aload_n hc dX10_readItems_105 rfl ?_
              refine j_callVV (t := 25) (As := []) hc dX10_readItems_106 kw_600 mX10_goOn (kC_25 _) clX10 rfl (by omega) (Nat.le_of_ble_eq_true rfl) (Nat.le_of_ble_eq_true rfl) ⟨Nat.le_refl _, Nat.le_refl _⟩ hf (fun I' L' h => qX10_goOn x.2.1 n d I5 L3 I' L' h) (fun I6 L6 hf => ?_)
              refine j_aload_n hc dX10_readItems_109 rfl ?_
              refine j_iload hc dX10_readItems_110 rfl ?_
              refine j_callVI (t := 25) (As := [.int v4]) hc dX10_readItems_112 kw_701 mX10_readNumber (kC_25 _) clX10 rfl (by omega) (Nat.le_of_ble_eq_true rfl) (Nat.le_of_ble_eq_true rfl) ⟨Nat.le_refl _, Nat.le_refl _⟩ hf (fun v I' L' h => qX10_readNumber x.2.1 n d v4 I6 L6 v I' L' h) (fun v7 I7 L7 hf => ?_)
              refine j_if_ne (tgt := 120) hc dX10_readItems_115 rfl hf (fun hf => ?_) (fun hf => ?_)
              · refine j_iinc (w := (1 : Int32)) hc dX10_readItems_120 rfl ci_1 (Nat.le_of_ble_eq_true rfl) hf (fun v8 hf => ?_)
                refine j_goto (tgt := 21) hc dX10_readItems_123 rfl ?_
                exact j_sub (hk21 _ _ _ _ _ hf) (And.intro rfl (And.intro rfl (And.intro rfl (And.intro rfl (trivial)))))
              · refine j_iconst (v := (0 : Int32)) hc dX10_readItems_118 ci_0 ?_
                exact j_zret hc dX10_readItems_119 rfl rfl (Or.inl rfl) hf
            · refine j_iconst (v := (0 : Int32)) hc dX10_readItems_90 ci_0 ?_
              exact j_zret hc dX10_readItems_91 rfl rfl (Or.inl rfl) hf
      · refine j_iconst (v := (1 : Int32)) hc dX10_readItems_54 ci_1 ?_
        exact j_zret hc dX10_readItems_55 rfl rfl (Or.inr rfl) hf

def fX10_readItems_b21 (n d : Nat) : Nat → Int32 → Int32 → Int32 → am_I → am_L → Option (Int32 × am_I × am_L)
  | 0 => fun _ _ _ _ _ => none
  | m + 1 => fX10_readItems_b21w n d  (fX10_readItems_b21 n d m)

set_option maxRecDepth 100000 in
theorem tX10_readItems_b21 {x : am_X} {al : Bool} (n d : Nat) (hc : am_ok x cX10_readItems yX10_readItems 6 (some .boolean) (d + 5) 0 0) {r : Int32} {I' : am_I} {L' : am_L} (m : Nat) : ∀ (a1 : Int32) (a2 : Int32) (a3 : Int32) (I : am_I) (L : am_L) (hf : fX10_readItems_b21 n d m a1 a2 a3 I L = some (r, I', L')), am_J x (fun S => S = (some (.int r), (KC al), (RC al), I', L')) 21 [some (.ref 25), some (.int a1), some (.int a2), some (.int a3), none, none] [] (KC al) (RC al) I L 0 0 := by
  induction m with
  | zero => intro a1 a2 a3 I L hf; exact (Option.some_ne_none _ hf.symm).elim
  | succ m ih => intro a1 a2 a3 I L hf; exact tX10_readItems_b21w n d hc (fX10_readItems_b21 n d m) ih a1 a2 a3 I L hf

set_option maxRecDepth 100000 in
def fX10_readItems (n d : Nat) (a1 : Int32) (a2 : Int32) (I : am_I) (L : am_L) : Option (Int32 × am_I × am_L) :=
  am_cp (0 : Int32) (0 : Int32) (10 : Int32) 10 10 (am_lt (am_cz I am_cW 26 ((0 : Int32)).toNatClampNeg ((0 : Int32)).toNatClampNeg ((10 : Int32)).toNatClampNeg) (fun I1 => am_lt (am_up I1 25 3 (0 : Int32)) (fun I2 => am_lt (0 : Int32) (fun v3 => fX10_readItems_b21 n d n a1 a2 v3 I2 L))))

set_option maxRecDepth 100000 in
set_option maxHeartbeats 4000000 in
theorem tX10_readItems {x : am_X} {al : Bool} (n d : Nat) (hc : am_ok x cX10_readItems yX10_readItems 6 (some .boolean) (d + 5) 0 0) {r : Int32} {I' : am_I} {L' : am_L} (a1 : Int32) (a2 : Int32) (I : am_I) (L : am_L) (hf : fX10_readItems n d a1 a2 I L = some (r, I', L')) : am_J x (fun S => S = (some (.int r), (KC al), (RC al), I', L')) 0 [some (.ref 25), some (.int a1), some (.int a2), none, none, none] [] (KC al) (RC al) I L 0 0 := by
  unfold fX10_readItems at hf
  refine j_getst (v := .ref 1000001) hc dX10_readItems_0 kw_575 cZWITHOUT ?_
  refine j_iconst (v := (0 : Int32)) hc dX10_readItems_3 ci_0 ?_
  refine j_aload_n hc dX10_readItems_4 rfl ?_
  refine j_getR (u := 26) hc dX10_readItems_5 (fgC_X10_11_25 _) (rC_25_2 _) ?_
  refine j_iconst (v := (0 : Int32)) hc dX10_readItems_8 ci_0 ?_
  refine j_bipush (v := (10 : Int32)) hc dX10_readItems_9 cb_10 ?_
  refine j_copyC (t0 := 1000001) (t1 := 26) (n0 := 10) (n1 := 10) (f := am_cW) hc dX10_readItems_11 kw_611 am_sys cTW (kC_26 _) (by omega) (Nat.le_of_ble_eq_true rfl) hf (fun I1 hf => ?_)
  refine j_aload_n hc dX10_readItems_14 rfl ?_
  refine j_iconst (v := (0 : Int32)) hc dX10_readItems_15 ci_0 ?_
  refine j_putI hc dX10_readItems_16 (fpC_X10_15_25 _) rfl rfl hf (fun I2 hf => ?_)
  refine j_iconst (v := (0 : Int32)) hc dX10_readItems_19 ci_0 ?_
  refine j_istore_n hc dX10_readItems_20 (Nat.le_of_ble_eq_true rfl) hf (fun v3 hf => ?_)
  exact j_sub (tX10_readItems_b21 n d hc n _ _ _ _ _ hf) (And.intro rfl (And.intro rfl (And.intro rfl (And.intro rfl (trivial)))))

set_option maxRecDepth 100000 in
theorem qX10_readItems (l : Launch) {al : Bool} (n d : Nat) (a1 : Int32) (a2 : Int32) (I : am_I) (L : am_L) (r : Int32) (I' : am_I) (L' : am_L) (hf : fX10_readItems n d a1 a2 I L = some (r, I', L')) : am_C l yX10_readItems cX10_readItems 6 (some .boolean) (d + 5) [.ref 25, .int a1, .int a2] (KC al) (RC al) I L (some (.int r)) I' L' := by
  exact am_intro (plainFor_of_name plX10) (fun _ _ => trivial) (Nat.le_of_ble_eq_true rfl) (fun x hl hc => by subst hl; exact j_sub (tX10_readItems n d hc _ _ _ _ hf) (And.intro rfl (And.intro rfl (And.intro rfl (trivial)))))
set_option maxRecDepth 100000 in
def fX9_addMan_draft_c25_items_b114 (n d : Nat) (s1 : Int32) (I : am_I) (L : am_L) : Option (am_I × am_L) :=
  am_ck s1 2 (am_lt (I 24 (s1).toNatClampNeg) (fun v1 => am_ck s1 2 (am_lt (am_up I 24 (s1).toNatClampNeg (v1 ||| ((1 : Int32) <<< ((I 14 0) &&& 31)))) (fun I2 => am_lt (am_up I2 14 0 ((I2 14 0) + (1 : Int32))) (fun I3 => some (I3, L))))))

set_option maxRecDepth 100000 in
set_option maxHeartbeats 4000000 in
theorem tX9_addMan_draft_c25_items_b114 {x : am_X} {al : Bool} (n d : Nat) (hc : am_ok x cX9_addMan yX9_addMan 2 none (d + 1) 0 0) {I' : am_I} {L' : am_L} (s1 : Int32) (I : am_I) (L : am_L) (hf : fX9_addMan_draft_c25_items_b114 n d s1 I L = some (I', L')) : am_J x (fun S => S = (none, (KC al), (RC al), I', L')) 114 [some (.ref 14), none] [.int s1, .ref 24] (KC al) (RC al) I L 0 0 := by
  unfold fX9_addMan_draft_c25_items_b114 at hf
  refine j_dup2 hc dX9_addMan_114 rfl rfl ?_
  refine j_iaload (n := 2) hc dX9_addMan_115 (kC_24 _) hf (fun v1 hf => ?_)
  refine j_iconst (v := (1 : Int32)) hc dX9_addMan_116 ci_1 ?_
  refine j_aload_n hc dX9_addMan_117 rfl ?_
  refine j_getI hc dX9_addMan_118 (fgC_X9_7_14 _) ?_
  refine j_ishl hc dX9_addMan_121 ?_
  refine j_ior hc dX9_addMan_122 ?_
  refine j_iastore (n := 2) hc dX9_addMan_123 (kC_24 _) hf (fun I2 hf => ?_)
  refine j_aload_n hc dX9_addMan_124 rfl ?_
  refine j_dup hc dX9_addMan_125 rfl ?_
  refine j_getI hc dX9_addMan_126 (fgC_X9_7_14 _) ?_
  refine j_iconst (v := (1 : Int32)) hc dX9_addMan_129 ci_1 ?_
  refine j_iadd hc dX9_addMan_130 ?_
  refine j_putI hc dX9_addMan_131 (fpC_X9_7_14 _) rfl rfl hf (fun I3 hf => ?_)
  exact j_return hc dX9_addMan_134 rfl rfl hf

set_option maxRecDepth 100000 in
def fX9_addMan_draft_c25_items_b37 (n d : Nat) (s1 : Int32) (s2 : Int32) (I : am_I) (L : am_L) : Option (am_I × am_L) :=
  am_ck s1 8 (am_lt (am_up I 15 (s1).toNatClampNeg s2) (fun I1 => am_ck (1 : Int32) 10 (am_lt (I1 26 ((1 : Int32)).toNatClampNeg) (fun v2 => am_ck (I1 14 0) 8 (am_lt (am_up I1 16 ((I1 14 0)).toNatClampNeg v2) (fun I3 => am_ck (2 : Int32) 10 (am_lt (I3 26 ((2 : Int32)).toNatClampNeg) (fun v4 => am_ck (I3 14 0) 8 (am_lt (am_up I3 17 ((I3 14 0)).toNatClampNeg v4) (fun I5 => am_ck (3 : Int32) 10 (am_lt (I5 26 ((3 : Int32)).toNatClampNeg) (fun v6 => am_ck (I5 14 0) 8 (am_lt (am_up I5 18 ((I5 14 0)).toNatClampNeg v6) (fun I7 => am_ck (4 : Int32) 10 (am_lt (I7 26 ((4 : Int32)).toNatClampNeg) (fun v8 => am_ck (I7 14 0) 8 (am_lt (am_up I7 19 ((I7 14 0)).toNatClampNeg v8) (fun I9 => am_ck (5 : Int32) 10 (am_lt (I9 26 ((5 : Int32)).toNatClampNeg) (fun v10 => am_ck (I9 14 0) 8 (am_lt (am_up I9 20 ((I9 14 0)).toNatClampNeg v10) (fun I11 => am_ck (0 : Int32) 10 (am_lt (I11 26 ((0 : Int32)).toNatClampNeg) (fun v12 => if v12 = (1 : Int32) then
    (fX9_addMan_draft_c25_items_b114 n d (1 : Int32) I11 L)
    else
    (fX9_addMan_draft_c25_items_b114 n d (0 : Int32) I11 L)))))))))))))))))))))))))

set_option maxRecDepth 100000 in
set_option maxHeartbeats 4000000 in
theorem tX9_addMan_draft_c25_items_b37 {x : am_X} {al : Bool} (n d : Nat) (hc : am_ok x cX9_addMan yX9_addMan 2 none (d + 1) 0 0) {I' : am_I} {L' : am_L} (s1 : Int32) (s2 : Int32) (I : am_I) (L : am_L) (hf : fX9_addMan_draft_c25_items_b37 n d s1 s2 I L = some (I', L')) : am_J x (fun S => S = (none, (KC al), (RC al), I', L')) 37 [some (.ref 14), some (.ref 26)] [.int s2, .int s1, .ref 15] (KC al) (RC al) I L 0 0 := by
  unfold fX9_addMan_draft_c25_items_b37 at hf
  refine j_iastore (n := 8) hc dX9_addMan_37 (kC_15 _) hf (fun I1 hf => ?_)
  refine j_aload_n hc dX9_addMan_38 rfl ?_
  refine j_getR (u := 16) hc dX9_addMan_39 (fgC_X9_30_14 _) (rC_14_6 _) ?_
  refine j_aload_n hc dX9_addMan_42 rfl ?_
  refine j_getI hc dX9_addMan_43 (fgC_X9_7_14 _) ?_
  refine j_aload_n hc dX9_addMan_46 rfl ?_
  refine j_iconst (v := (1 : Int32)) hc dX9_addMan_47 ci_1 ?_
  refine j_iaload (n := 10) hc dX9_addMan_48 (kC_26 _) hf (fun v2 hf => ?_)
  refine j_iastore (n := 8) hc dX9_addMan_49 (kC_16 _) hf (fun I3 hf => ?_)
  refine j_aload_n hc dX9_addMan_50 rfl ?_
  refine j_getR (u := 17) hc dX9_addMan_51 (fgC_X9_33_14 _) (rC_14_7 _) ?_
  refine j_aload_n hc dX9_addMan_54 rfl ?_
  refine j_getI hc dX9_addMan_55 (fgC_X9_7_14 _) ?_
  refine j_aload_n hc dX9_addMan_58 rfl ?_
  refine j_iconst (v := (2 : Int32)) hc dX9_addMan_59 ci_2 ?_
  refine j_iaload (n := 10) hc dX9_addMan_60 (kC_26 _) hf (fun v4 hf => ?_)
  refine j_iastore (n := 8) hc dX9_addMan_61 (kC_17 _) hf (fun I5 hf => ?_)
  refine j_aload_n hc dX9_addMan_62 rfl ?_
  refine j_getR (u := 18) hc dX9_addMan_63 (fgC_X9_36_14 _) (rC_14_8 _) ?_
  refine j_aload_n hc dX9_addMan_66 rfl ?_
  refine j_getI hc dX9_addMan_67 (fgC_X9_7_14 _) ?_
  refine j_aload_n hc dX9_addMan_70 rfl ?_
  refine j_iconst (v := (3 : Int32)) hc dX9_addMan_71 ci_3 ?_
  refine j_iaload (n := 10) hc dX9_addMan_72 (kC_26 _) hf (fun v6 hf => ?_)
  refine j_iastore (n := 8) hc dX9_addMan_73 (kC_18 _) hf (fun I7 hf => ?_)
  refine j_aload_n hc dX9_addMan_74 rfl ?_
  refine j_getR (u := 19) hc dX9_addMan_75 (fgC_X9_39_14 _) (rC_14_9 _) ?_
  refine j_aload_n hc dX9_addMan_78 rfl ?_
  refine j_getI hc dX9_addMan_79 (fgC_X9_7_14 _) ?_
  refine j_aload_n hc dX9_addMan_82 rfl ?_
  refine j_iconst (v := (4 : Int32)) hc dX9_addMan_83 ci_4 ?_
  refine j_iaload (n := 10) hc dX9_addMan_84 (kC_26 _) hf (fun v8 hf => ?_)
  refine j_iastore (n := 8) hc dX9_addMan_85 (kC_19 _) hf (fun I9 hf => ?_)
  refine j_aload_n hc dX9_addMan_86 rfl ?_
  refine j_getR (u := 20) hc dX9_addMan_87 (fgC_X9_42_14 _) (rC_14_10 _) ?_
  refine j_aload_n hc dX9_addMan_90 rfl ?_
  refine j_getI hc dX9_addMan_91 (fgC_X9_7_14 _) ?_
  refine j_aload_n hc dX9_addMan_94 rfl ?_
  refine j_iconst (v := (5 : Int32)) hc dX9_addMan_95 ci_5 ?_
  refine j_iaload (n := 10) hc dX9_addMan_96 (kC_26 _) hf (fun v10 hf => ?_)
  refine j_iastore (n := 8) hc dX9_addMan_97 (kC_20 _) hf (fun I11 hf => ?_)
  refine j_aload_n hc dX9_addMan_98 rfl ?_
  refine j_getR (u := 24) hc dX9_addMan_99 (fgC_X9_54_14 _) (rC_14_14 _) ?_
  refine j_aload_n hc dX9_addMan_102 rfl ?_
  refine j_iconst (v := (0 : Int32)) hc dX9_addMan_103 ci_0 ?_
  refine j_iaload (n := 10) hc dX9_addMan_104 (kC_26 _) hf (fun v12 hf => ?_)
  refine j_iconst (v := (1 : Int32)) hc dX9_addMan_105 ci_1 ?_
  refine j_icmp_ne (tgt := 113) hc dX9_addMan_106 rfl hf (fun hf => ?_) (fun hf => ?_)
  · refine j_iconst (v := (0 : Int32)) hc dX9_addMan_113 ci_0 ?_
    exact j_sub (tX9_addMan_draft_c25_items_b114 n d hc _ _ _ hf) (And.intro rfl (trivial))
  · refine j_iconst (v := (1 : Int32)) hc dX9_addMan_109 ci_1 ?_
    refine j_goto (tgt := 114) hc dX9_addMan_110 rfl ?_
    exact j_sub (tX9_addMan_draft_c25_items_b114 n d hc _ _ _ hf) (And.intro rfl (trivial))

set_option maxRecDepth 100000 in
def fX9_addMan_draft_c25_items (n d : Nat) (I : am_I) (L : am_L) : Option (am_I × am_L) :=
  if (8 : Int32) ≤ (I 14 0) then
    (some (I, L))
    else
    (if (6 : Int32) ≤ (10 : Int32) then
      (am_ck (0 : Int32) 10 (am_lt (I 26 ((0 : Int32)).toNatClampNeg) (fun v1 => if v1 = (1 : Int32) then
        (fX9_addMan_draft_c25_items_b37 n d (I 14 0) (1 : Int32) I L)
        else
        (fX9_addMan_draft_c25_items_b37 n d (I 14 0) (0 : Int32) I L))))
      else
      (some (I, L)))

set_option maxRecDepth 100000 in
set_option maxHeartbeats 4000000 in
theorem tX9_addMan_draft_c25_items {x : am_X} {al : Bool} (n d : Nat) (hc : am_ok x cX9_addMan yX9_addMan 2 none (d + 1) 0 0) {I' : am_I} {L' : am_L} (I : am_I) (L : am_L) (hf : fX9_addMan_draft_c25_items n d I L = some (I', L')) : am_J x (fun S => S = (none, (KC al), (RC al), I', L')) 0 [some (.ref 14), some (.ref 26)] [] (KC al) (RC al) I L 0 0 := by
  unfold fX9_addMan_draft_c25_items at hf
  refine j_aload_n hc dX9_addMan_0 rfl ?_
  refine j_getI hc dX9_addMan_1 (fgC_X9_7_14 _) ?_
  refine j_bipush (v := (8 : Int32)) hc dX9_addMan_4 cb_8 ?_
  refine j_icmp_ge (tgt := 16) hc dX9_addMan_6 rfl hf (fun hf => ?_) (fun hf => ?_)
  · exact j_return hc dX9_addMan_16 rfl rfl hf
  · refine j_aload_n hc dX9_addMan_9 rfl ?_
    refine j_alen0 (v := (10 : Int32)) hc dX9_addMan_10 (kC_26 _) cn_10 ?_
    refine j_bipush (v := (6 : Int32)) hc dX9_addMan_11 cb_6 ?_
    refine j_icmp_ge (tgt := 17) hc dX9_addMan_13 rfl hf (fun hf => ?_) (fun hf => ?_)
    · refine j_aload_n hc dX9_addMan_17 rfl ?_
      refine j_getR (u := 15) hc dX9_addMan_18 (fgC_X9_26_14 _) (rC_14_5 _) ?_
      refine j_aload_n hc dX9_addMan_21 rfl ?_
      refine j_getI hc dX9_addMan_22 (fgC_X9_7_14 _) ?_
      refine j_aload_n hc dX9_addMan_25 rfl ?_
      refine j_iconst (v := (0 : Int32)) hc dX9_addMan_26 ci_0 ?_
      refine j_iaload (n := 10) hc dX9_addMan_27 (kC_26 _) hf (fun v1 hf => ?_)
      refine j_iconst (v := (1 : Int32)) hc dX9_addMan_28 ci_1 ?_
      refine j_icmp_ne (tgt := 36) hc dX9_addMan_29 rfl hf (fun hf => ?_) (fun hf => ?_)
      · refine j_iconst (v := (0 : Int32)) hc dX9_addMan_36 ci_0 ?_
        exact j_sub (tX9_addMan_draft_c25_items_b37 n d hc _ _ _ _ hf) (And.intro rfl (And.intro rfl (trivial)))
      · refine j_iconst (v := (1 : Int32)) hc dX9_addMan_32 ci_1 ?_
        refine j_goto (tgt := 37) hc dX9_addMan_33 rfl ?_
        exact j_sub (tX9_addMan_draft_c25_items_b37 n d hc _ _ _ _ hf) (And.intro rfl (And.intro rfl (trivial)))
    · exact j_return hc dX9_addMan_16 rfl rfl hf

set_option maxRecDepth 100000 in
theorem qX9_addMan_draft_c25_items (l : Launch) {al : Bool} (n d : Nat) (I : am_I) (L : am_L) (I' : am_I) (L' : am_L) (hf : fX9_addMan_draft_c25_items n d I L = some (I', L')) : am_C l yX9_addMan cX9_addMan 2 none (d + 1) [.ref 14, .ref 26] (KC al) (RC al) I L none I' L' := by
  exact am_intro (plainFor_of_name plX9) (fun _ _ => trivial) (Nat.le_of_ble_eq_true rfl) (fun x hl hc => by subst hl; exact j_sub (tX9_addMan_draft_c25_items n d hc  _ _ hf) (And.intro rfl (And.intro rfl (trivial))))
set_option maxRecDepth 100000 in
def fX9_addOrchard_draft_b43 (n d : Nat) (s1 : Int32) (a1 : Int32) (a2 : Int32) (I : am_I) (L : am_L) : Option (am_I × am_L) :=
  am_bl s1 (am_lt (am_up I 14 4 s1) (fun I1 => am_ck (I1 14 1) 6 (am_lt (am_up I1 21 ((I1 14 1)).toNatClampNeg a1) (fun I2 => am_ck (I2 14 1) 6 (am_lt (am_up I2 22 ((I2 14 1)).toNatClampNeg a2) (fun I3 => am_ck a1 21 (am_lt (am_up I3 23 (a1).toNatClampNeg a2) (fun I4 => am_lt (am_up I4 14 1 ((I4 14 1) + (1 : Int32))) (fun I5 => some (I5, L))))))))))

set_option maxRecDepth 100000 in
set_option maxHeartbeats 4000000 in
theorem tX9_addOrchard_draft_b43 {x : am_X} {al : Bool} (n d : Nat) (hc : am_ok x cX9_addOrchard yX9_addOrchard 3 none (d + 1) 0 0) {I' : am_I} {L' : am_L} (s1 : Int32) (a1 : Int32) (a2 : Int32) (I : am_I) (L : am_L) (hf : fX9_addOrchard_draft_b43 n d s1 a1 a2 I L = some (I', L')) : am_J x (fun S => S = (none, (KC al), (RC al), I', L')) 43 [some (.ref 14), some (.int a1), some (.int a2)] [.int s1, .ref 14] (KC al) (RC al) I L 0 0 := by
  unfold fX9_addOrchard_draft_b43 at hf
  refine j_putZ hc dX9_addOrchard_43 (fpC_X9_22_14 _) rfl hf (fun I1 hf => ?_)
  refine j_aload_n hc dX9_addOrchard_46 rfl ?_
  refine j_getR (u := 21) hc dX9_addOrchard_47 (fgC_X9_45_14 _) (rC_14_11 _) ?_
  refine j_aload_n hc dX9_addOrchard_50 rfl ?_
  refine j_getI hc dX9_addOrchard_51 (fgC_X9_13_14 _) ?_
  refine j_iload_n hc dX9_addOrchard_54 rfl ?_
  refine j_iastore (n := 6) hc dX9_addOrchard_55 (kC_21 _) hf (fun I2 hf => ?_)
  refine j_aload_n hc dX9_addOrchard_56 rfl ?_
  refine j_getR (u := 22) hc dX9_addOrchard_57 (fgC_X9_48_14 _) (rC_14_12 _) ?_
  refine j_aload_n hc dX9_addOrchard_60 rfl ?_
  refine j_getI hc dX9_addOrchard_61 (fgC_X9_13_14 _) ?_
  refine j_iload_n hc dX9_addOrchard_64 rfl ?_
  refine j_iastore (n := 6) hc dX9_addOrchard_65 (kC_22 _) hf (fun I3 hf => ?_)
  refine j_aload_n hc dX9_addOrchard_66 rfl ?_
  refine j_getR (u := 23) hc dX9_addOrchard_67 (fgC_X9_51_14 _) (rC_14_13 _) ?_
  refine j_iload_n hc dX9_addOrchard_70 rfl ?_
  refine j_iload_n hc dX9_addOrchard_71 rfl ?_
  refine j_iastore (n := 21) hc dX9_addOrchard_72 (kC_23 _) hf (fun I4 hf => ?_)
  refine j_aload_n hc dX9_addOrchard_73 rfl ?_
  refine j_dup hc dX9_addOrchard_74 rfl ?_
  refine j_getI hc dX9_addOrchard_75 (fgC_X9_13_14 _) ?_
  refine j_iconst (v := (1 : Int32)) hc dX9_addOrchard_78 ci_1 ?_
  refine j_iadd hc dX9_addOrchard_79 ?_
  refine j_putI hc dX9_addOrchard_80 (fpC_X9_13_14 _) rfl rfl hf (fun I5 hf => ?_)
  exact j_return hc dX9_addOrchard_83 rfl rfl hf

set_option maxRecDepth 100000 in
def fX9_addOrchard_draft_b42 (n d : Nat) (a1 : Int32) (a2 : Int32) (I : am_I) (L : am_L) : Option (am_I × am_L) :=
  fX9_addOrchard_draft_b43 n d (0 : Int32) a1 a2 I L

set_option maxRecDepth 100000 in
set_option maxHeartbeats 4000000 in
theorem tX9_addOrchard_draft_b42 {x : am_X} {al : Bool} (n d : Nat) (hc : am_ok x cX9_addOrchard yX9_addOrchard 3 none (d + 1) 0 0) {I' : am_I} {L' : am_L} (a1 : Int32) (a2 : Int32) (I : am_I) (L : am_L) (hf : fX9_addOrchard_draft_b42 n d a1 a2 I L = some (I', L')) : am_J x (fun S => S = (none, (KC al), (RC al), I', L')) 42 [some (.ref 14), some (.int a1), some (.int a2)] [.ref 14] (KC al) (RC al) I L 0 0 := by
  unfold fX9_addOrchard_draft_b42 at hf
  refine j_iconst (v := (0 : Int32)) hc dX9_addOrchard_42 ci_0 ?_
  exact j_sub (tX9_addOrchard_draft_b43 n d hc _ _ _ _ _ hf) (And.intro rfl (And.intro rfl (And.intro rfl (trivial))))

set_option maxRecDepth 100000 in
def fX9_addOrchard_draft (n d : Nat) (a1 : Int32) (a2 : Int32) (I : am_I) (L : am_L) : Option (am_I × am_L) :=
  if (6 : Int32) ≤ (I 14 1) then
    (some (I, L))
    else
    (if a1 < (1 : Int32) then
      (some (I, L))
      else
      (if a1 ≤ (20 : Int32) then
        (if (I 14 4) = 0 then
          (fX9_addOrchard_draft_b42 n d a1 a2 I L)
          else
          (am_ck a1 21 (am_lt (I 23 (a1).toNatClampNeg) (fun v1 => if v1 = 0 then
            (fX9_addOrchard_draft_b43 n d (1 : Int32) a1 a2 I L)
            else
            (fX9_addOrchard_draft_b42 n d a1 a2 I L)))))
        else
        (some (I, L))))

set_option maxRecDepth 100000 in
set_option maxHeartbeats 4000000 in
theorem tX9_addOrchard_draft {x : am_X} {al : Bool} (n d : Nat) (hc : am_ok x cX9_addOrchard yX9_addOrchard 3 none (d + 1) 0 0) {I' : am_I} {L' : am_L} (a1 : Int32) (a2 : Int32) (I : am_I) (L : am_L) (hf : fX9_addOrchard_draft n d a1 a2 I L = some (I', L')) : am_J x (fun S => S = (none, (KC al), (RC al), I', L')) 0 [some (.ref 14), some (.int a1), some (.int a2)] [] (KC al) (RC al) I L 0 0 := by
  unfold fX9_addOrchard_draft at hf
  refine j_aload_n hc dX9_addOrchard_0 rfl ?_
  refine j_getI hc dX9_addOrchard_1 (fgC_X9_13_14 _) ?_
  refine j_bipush (v := (6 : Int32)) hc dX9_addOrchard_4 cb_6 ?_
  refine j_icmp_ge (tgt := 20) hc dX9_addOrchard_6 rfl hf (fun hf => ?_) (fun hf => ?_)
  · exact j_return hc dX9_addOrchard_20 rfl rfl hf
  · refine j_iload_n hc dX9_addOrchard_9 rfl ?_
    refine j_iconst (v := (1 : Int32)) hc dX9_addOrchard_10 ci_1 ?_
    refine j_icmp_lt (tgt := 20) hc dX9_addOrchard_11 rfl hf (fun hf => ?_) (fun hf => ?_)
    · exact j_return hc dX9_addOrchard_20 rfl rfl hf
    · refine j_iload_n hc dX9_addOrchard_14 rfl ?_
      refine j_bipush (v := (20 : Int32)) hc dX9_addOrchard_15 cb_20 ?_
      refine j_icmp_le (tgt := 21) hc dX9_addOrchard_17 rfl hf (fun hf => ?_) (fun hf => ?_)
      · refine j_aload_n hc dX9_addOrchard_21 rfl ?_
        refine j_aload_n hc dX9_addOrchard_22 rfl ?_
        refine j_getI hc dX9_addOrchard_23 (fgC_X9_22_14 _) ?_
        refine j_if_eq (tgt := 42) hc dX9_addOrchard_26 rfl hf (fun hf => ?_) (fun hf => ?_)
        · exact j_sub (tX9_addOrchard_draft_b42 n d hc _ _ _ _ hf) (And.intro rfl (And.intro rfl (And.intro rfl (trivial))))
        · refine j_aload_n hc dX9_addOrchard_29 rfl ?_
          refine j_getR (u := 23) hc dX9_addOrchard_30 (fgC_X9_51_14 _) (rC_14_13 _) ?_
          refine j_iload_n hc dX9_addOrchard_33 rfl ?_
          refine j_iaload (n := 21) hc dX9_addOrchard_34 (kC_23 _) hf (fun v1 hf => ?_)
          refine j_if_ne (tgt := 42) hc dX9_addOrchard_35 rfl hf (fun hf => ?_) (fun hf => ?_)
          · exact j_sub (tX9_addOrchard_draft_b42 n d hc _ _ _ _ hf) (And.intro rfl (And.intro rfl (And.intro rfl (trivial))))
          · refine j_iconst (v := (1 : Int32)) hc dX9_addOrchard_38 ci_1 ?_
            refine j_goto (tgt := 43) hc dX9_addOrchard_39 rfl ?_
            exact j_sub (tX9_addOrchard_draft_b43 n d hc _ _ _ _ _ hf) (And.intro rfl (And.intro rfl (And.intro rfl (trivial))))
      · exact j_return hc dX9_addOrchard_20 rfl rfl hf

set_option maxRecDepth 100000 in
theorem qX9_addOrchard_draft (l : Launch) {al : Bool} (n d : Nat) (a1 : Int32) (a2 : Int32) (I : am_I) (L : am_L) (I' : am_I) (L' : am_L) (hf : fX9_addOrchard_draft n d a1 a2 I L = some (I', L')) : am_C l yX9_addOrchard cX9_addOrchard 3 none (d + 1) [.ref 14, .int a1, .int a2] (KC al) (RC al) I L none I' L' := by
  exact am_intro (plainFor_of_name plX9) (fun _ _ => trivial) (Nat.le_of_ble_eq_true rfl) (fun x hl hc => by subst hl; exact j_sub (tX9_addOrchard_draft n d hc _ _ _ _ hf) (And.intro rfl (And.intro rfl (And.intro rfl (trivial)))))
set_option maxRecDepth 100000 in
def fX10_keepClause (n d : Nat) (a1 : Int32) (I : am_I) (L : am_L) : Option (am_I × am_L) :=
  if a1 = (109 : Int32) then
    (am_b2 (fX9_addMan_draft_c25_items n d I L) (fun I9 L9 => some (I9, L9)))
    else
    (if a1 = (111 : Int32) then
      (am_ck (6 : Int32) 10 (am_lt (I 26 ((6 : Int32)).toNatClampNeg) (fun v6 => am_ck (7 : Int32) 10 (am_lt (I 26 ((7 : Int32)).toNatClampNeg) (fun v7 => am_b2 (fX9_addOrchard_draft n d v6 v7 I L) (fun I8 L8 => some (I8, L8)))))))
      else
      (am_ck (8 : Int32) 10 (am_lt (I 26 ((8 : Int32)).toNatClampNeg) (fun v1 => am_lt (am_up I 14 2 v1) (fun I2 => am_ck (9 : Int32) 10 (am_lt (I2 26 ((9 : Int32)).toNatClampNeg) (fun v3 => am_lt (am_up I2 14 3 v3) (fun I4 => am_bl (1 : Int32) (am_lt (am_up I4 25 5 (1 : Int32)) (fun I5 => some (I5, L)))))))))))

set_option maxRecDepth 100000 in
set_option maxHeartbeats 4000000 in
theorem tX10_keepClause {x : am_X} {al : Bool} (n d : Nat) (hc : am_ok x cX10_keepClause yX10_keepClause 2 none (d + 2) 0 0) {I' : am_I} {L' : am_L} (a1 : Int32) (I : am_I) (L : am_L) (hf : fX10_keepClause n d a1 I L = some (I', L')) : am_J x (fun S => S = (none, (KC al), (RC al), I', L')) 0 [some (.ref 25), some (.int a1)] [] (KC al) (RC al) I L 0 0 := by
  unfold fX10_keepClause at hf
  refine j_iload_n hc dX10_keepClause_0 rfl ?_
  refine j_bipush (v := (109 : Int32)) hc dX10_keepClause_1 cb_109 ?_
  refine j_icmp_ne (tgt := 20) hc dX10_keepClause_3 rfl hf (fun hf => ?_) (fun hf => ?_)
  · refine j_iload_n hc dX10_keepClause_20 rfl ?_
    refine j_bipush (v := (111 : Int32)) hc dX10_keepClause_21 cb_111 ?_
    refine j_icmp_ne (tgt := 50) hc dX10_keepClause_23 rfl hf (fun hf => ?_) (fun hf => ?_)
    · refine j_aload_n hc dX10_keepClause_50 rfl ?_
      refine j_getR (u := 14) hc dX10_keepClause_51 (fgC_X10_30_25 _) (rC_25_1 _) ?_
      refine j_aload_n hc dX10_keepClause_54 rfl ?_
      refine j_getR (u := 26) hc dX10_keepClause_55 (fgC_X10_11_25 _) (rC_25_2 _) ?_
      refine j_bipush (v := (8 : Int32)) hc dX10_keepClause_58 cb_8 ?_
      refine j_iaload (n := 10) hc dX10_keepClause_60 (kC_26 _) hf (fun v1 hf => ?_)
      refine j_putI hc dX10_keepClause_61 (fpC_X10_95_14 _) rfl rfl hf (fun I2 hf => ?_)
      refine j_aload_n hc dX10_keepClause_64 rfl ?_
      refine j_getR (u := 14) hc dX10_keepClause_65 (fgC_X10_30_25 _) (rC_25_1 _) ?_
      refine j_aload_n hc dX10_keepClause_68 rfl ?_
      refine j_getR (u := 26) hc dX10_keepClause_69 (fgC_X10_11_25 _) (rC_25_2 _) ?_
      refine j_bipush (v := (9 : Int32)) hc dX10_keepClause_72 cb_9 ?_
      refine j_iaload (n := 10) hc dX10_keepClause_74 (kC_26 _) hf (fun v3 hf => ?_)
      refine j_putI hc dX10_keepClause_75 (fpC_X10_98_14 _) rfl rfl hf (fun I4 hf => ?_)
      refine j_aload_n hc dX10_keepClause_78 rfl ?_
      refine j_iconst (v := (1 : Int32)) hc dX10_keepClause_79 ci_1 ?_
      refine j_putZ hc dX10_keepClause_80 (fpC_X10_22_25 _) rfl hf (fun I5 hf => ?_)
      exact j_return hc dX10_keepClause_83 rfl rfl hf
    · refine j_aload_n hc dX10_keepClause_26 rfl ?_
      refine j_getR (u := 14) hc dX10_keepClause_27 (fgC_X10_30_25 _) (rC_25_1 _) ?_
      refine j_aload_n hc dX10_keepClause_30 rfl ?_
      refine j_getR (u := 26) hc dX10_keepClause_31 (fgC_X10_11_25 _) (rC_25_2 _) ?_
      refine j_bipush (v := (6 : Int32)) hc dX10_keepClause_34 cb_6 ?_
      refine j_iaload (n := 10) hc dX10_keepClause_36 (kC_26 _) hf (fun v6 hf => ?_)
      refine j_aload_n hc dX10_keepClause_37 rfl ?_
      refine j_getR (u := 26) hc dX10_keepClause_38 (fgC_X10_11_25 _) (rC_25_2 _) ?_
      refine j_bipush (v := (7 : Int32)) hc dX10_keepClause_41 cb_7 ?_
      refine j_iaload (n := 10) hc dX10_keepClause_43 (kC_26 _) hf (fun v7 hf => ?_)
      refine j_callVV (t := 14) (As := [.int v6, .int v7]) hc dX10_keepClause_44 kw_721 mX9_addOrchard (kC_14 _) clX9 rfl (by omega) (Nat.le_of_ble_eq_true rfl) (Nat.le_of_ble_eq_true rfl) ⟨Nat.le_refl _, Nat.le_refl _⟩ hf (fun I' L' h => qX9_addOrchard_draft x.2.1 n d v6 v7 I L I' L' h) (fun I8 L8 hf => ?_)
      refine j_goto (tgt := 83) hc dX10_keepClause_47 rfl ?_
      exact j_return hc dX10_keepClause_83 rfl rfl hf
  · refine j_aload_n hc dX10_keepClause_6 rfl ?_
    refine j_getR (u := 14) hc dX10_keepClause_7 (fgC_X10_30_25 _) (rC_25_1 _) ?_
    refine j_aload_n hc dX10_keepClause_10 rfl ?_
    refine j_getR (u := 26) hc dX10_keepClause_11 (fgC_X10_11_25 _) (rC_25_2 _) ?_
    refine j_callVV (t := 14) (As := [.ref 26]) hc dX10_keepClause_14 kw_717 mX9_addMan (kC_14 _) clX9 rfl (by omega) (Nat.le_of_ble_eq_true rfl) (Nat.le_of_ble_eq_true rfl) ⟨Nat.le_refl _, Nat.le_refl _⟩ hf (fun I' L' h => qX9_addMan_draft_c25_items x.2.1 n d I L I' L' h) (fun I9 L9 hf => ?_)
    refine j_goto (tgt := 83) hc dX10_keepClause_17 rfl ?_
    exact j_return hc dX10_keepClause_83 rfl rfl hf

set_option maxRecDepth 100000 in
theorem qX10_keepClause (l : Launch) {al : Bool} (n d : Nat) (a1 : Int32) (I : am_I) (L : am_L) (I' : am_I) (L' : am_L) (hf : fX10_keepClause n d a1 I L = some (I', L')) : am_C l yX10_keepClause cX10_keepClause 2 none (d + 2) [.ref 25, .int a1] (KC al) (RC al) I L none I' L' := by
  exact am_intro (plainFor_of_name plX10) (fun _ _ => trivial) (Nat.le_of_ble_eq_true rfl) (fun x hl hc => by subst hl; exact j_sub (tX10_keepClause n d hc _ _ _ hf) (And.intro rfl (And.intro rfl (trivial))))
set_option maxRecDepth 100000 in
def fX10_readClause (n d : Nat) (I : am_I) (L : am_L) : Option (Int32 × am_I × am_L) :=
  am_b3 (fX8_at n d (I 25 4) I L) (fun v1 I1 L1 => am_lt v1 (fun v2 => am_b3 (fX10_firstItemOf n d v2 I1 L1) (fun v3 I3 L3 => am_lt v3 (fun v4 => if v4 = (-1 : Int32) then
    (some ((0 : Int32), I3, L3))
    else
    (am_b3 (fX10_isOneTooMany n d v2 I3 L3) (fun v5 I5 L5 => if v5 = 0 then
      (am_b2 (fX10_goOn n d I5 L5) (fun I6 L6 => am_b3 (fX10_endOfItems n d v4 I6 L6) (fun v7 I7 L7 => am_b3 (fX10_readItems n d v4 v7 I7 L7) (fun v8 I8 L8 => if v8 = 0 then
        (some ((0 : Int32), I8, L8))
        else
        (am_b2 (fX10_keepClause n d v2 I8 L8) (fun I9 L9 => some ((1 : Int32), I9, L9)))))))
      else
      (some ((0 : Int32), I5, L5))))))))

set_option maxRecDepth 100000 in
set_option maxHeartbeats 4000000 in
theorem tX10_readClause {x : am_X} {al : Bool} (n d : Nat) (hc : am_ok x cX10_readClause yX10_readClause 3 (some .boolean) (d + 6) 0 0) {r : Int32} {I' : am_I} {L' : am_L} (I : am_I) (L : am_L) (hf : fX10_readClause n d I L = some (r, I', L')) : am_J x (fun S => S = (some (.int r), (KC al), (RC al), I', L')) 0 [some (.ref 25), none, none] [] (KC al) (RC al) I L 0 0 := by
  unfold fX10_readClause at hf
  refine j_aload_n hc dX10_readClause_0 rfl ?_
  refine j_getR (u := 1) hc dX10_readClause_1 (fgC_X10_26_25 _) (rC_25_0 _) ?_
  refine j_aload_n hc dX10_readClause_4 rfl ?_
  refine j_getI hc dX10_readClause_5 (fgC_X10_19_25 _) ?_
  refine j_callVI (t := 1) (As := [.int (I 25 4)]) hc dX10_readClause_8 kw_589 mX8_at (kC_1 _) clX8 rfl (by omega) (Nat.le_of_ble_eq_true rfl) (Nat.le_of_ble_eq_true rfl) ⟨Nat.le_refl _, Nat.le_refl _⟩ hf (fun v I' L' h => qX8_at x.2.1 n d (I 25 4) I L v I' L' h) (fun v1 I1 L1 hf => ?_)
  refine j_istore_n hc dX10_readClause_11 (Nat.le_of_ble_eq_true rfl) hf (fun v2 hf => ?_)
  refine j_iload_n hc dX10_readClause_12 rfl ?_
  refine j_callSI (As := [.int v2]) hc dX10_readClause_13 kw_593 mX10_firstItemOf  rfl (by omega) (Nat.le_of_ble_eq_true rfl) (Nat.le_of_ble_eq_true rfl) ⟨Nat.le_refl _, Nat.le_refl _⟩ hf (fun v I' L' h => qX10_firstItemOf x.2.1 n d v2 I1 L1 v I' L' h) (fun v3 I3 L3 hf => ?_)
  refine j_istore_n hc dX10_readClause_16 (Nat.le_of_ble_eq_true rfl) hf (fun v4 hf => ?_)
  refine j_iload_n hc dX10_readClause_17 rfl ?_
  refine j_iconst (v := (-1 : Int32)) hc dX10_readClause_18 ci_m1 ?_
  refine j_icmp_eq (tgt := 30) hc dX10_readClause_19 rfl hf (fun hf => ?_) (fun hf => ?_)
  · refine j_iconst (v := (0 : Int32)) hc dX10_readClause_30 ci_0 ?_
    exact j_zret hc dX10_readClause_31 rfl rfl (Or.inl rfl) hf
  · refine j_aload_n hc dX10_readClause_22 rfl ?_
    refine j_iload_n hc dX10_readClause_23 rfl ?_
    refine j_callVI (t := 25) (As := [.int v2]) hc dX10_readClause_24 kw_596 mX10_isOneTooMany (kC_25 _) clX10 rfl (by omega) (Nat.le_of_ble_eq_true rfl) (Nat.le_of_ble_eq_true rfl) ⟨Nat.le_refl _, Nat.le_refl _⟩ hf (fun v I' L' h => qX10_isOneTooMany x.2.1 n d v2 I3 L3 v I' L' h) (fun v5 I5 L5 hf => ?_)
    refine j_if_eq (tgt := 32) hc dX10_readClause_27 rfl hf (fun hf => ?_) (fun hf => ?_)
    · refine j_aload_n hc dX10_readClause_32 rfl ?_
      refine j_callVV (t := 25) (As := []) hc dX10_readClause_33 kw_600 mX10_goOn (kC_25 _) clX10 rfl (by omega) (Nat.le_of_ble_eq_true rfl) (Nat.le_of_ble_eq_true rfl) ⟨Nat.le_refl _, Nat.le_refl _⟩ hf (fun I' L' h => qX10_goOn x.2.1 n d I5 L5 I' L' h) (fun I6 L6 hf => ?_)
      refine j_aload_n hc dX10_readClause_36 rfl ?_
      refine j_iload_n hc dX10_readClause_37 rfl ?_
      refine j_iload_n hc dX10_readClause_38 rfl ?_
      refine j_callSI (As := [.int v4]) hc dX10_readClause_39 kw_604 mX10_endOfItems  rfl (by omega) (Nat.le_of_ble_eq_true rfl) (Nat.le_of_ble_eq_true rfl) ⟨Nat.le_refl _, Nat.le_refl _⟩ hf (fun v I' L' h => qX10_endOfItems x.2.1 n d v4 I6 L6 v I' L' h) (fun v7 I7 L7 hf => ?_)
      refine j_callVI (t := 25) (As := [.int v4, .int v7]) hc dX10_readClause_42 kw_607 mX10_readItems (kC_25 _) clX10 rfl (by omega) (Nat.le_of_ble_eq_true rfl) (Nat.le_of_ble_eq_true rfl) ⟨Nat.le_refl _, Nat.le_refl _⟩ hf (fun v I' L' h => qX10_readItems x.2.1 n d v4 v7 I7 L7 v I' L' h) (fun v8 I8 L8 hf => ?_)
      refine j_if_ne (tgt := 50) hc dX10_readClause_45 rfl hf (fun hf => ?_) (fun hf => ?_)
      · refine j_aload_n hc dX10_readClause_50 rfl ?_
        refine j_iload_n hc dX10_readClause_51 rfl ?_
        refine j_callVV (t := 25) (As := [.int v2]) hc dX10_readClause_52 kw_713 mX10_keepClause (kC_25 _) clX10 rfl (by omega) (Nat.le_of_ble_eq_true rfl) (Nat.le_of_ble_eq_true rfl) ⟨Nat.le_refl _, Nat.le_refl _⟩ hf (fun I' L' h => qX10_keepClause x.2.1 n d v2 I8 L8 I' L' h) (fun I9 L9 hf => ?_)
        refine j_iconst (v := (1 : Int32)) hc dX10_readClause_55 ci_1 ?_
        exact j_zret hc dX10_readClause_56 rfl rfl (Or.inr rfl) hf
      · refine j_iconst (v := (0 : Int32)) hc dX10_readClause_48 ci_0 ?_
        exact j_zret hc dX10_readClause_49 rfl rfl (Or.inl rfl) hf
    · refine j_iconst (v := (0 : Int32)) hc dX10_readClause_30 ci_0 ?_
      exact j_zret hc dX10_readClause_31 rfl rfl (Or.inl rfl) hf

set_option maxRecDepth 100000 in
theorem qX10_readClause (l : Launch) {al : Bool} (n d : Nat) (I : am_I) (L : am_L) (r : Int32) (I' : am_I) (L' : am_L) (hf : fX10_readClause n d I L = some (r, I', L')) : am_C l yX10_readClause cX10_readClause 3 (some .boolean) (d + 6) [.ref 25] (KC al) (RC al) I L (some (.int r)) I' L' := by
  exact am_intro (plainFor_of_name plX10) (fun _ _ => trivial) (Nat.le_of_ble_eq_true rfl) (fun x hl hc => by subst hl; exact j_sub (tX10_readClause n d hc  _ _ hf) (And.intro rfl (trivial)))
set_option maxRecDepth 100000 in
def fX9_isWhole_draft (n d : Nat) (I : am_I) (L : am_L) : Option (Int32 × am_I × am_L) :=
  if (I 14 0) < (2 : Int32) then
    (some ((0 : Int32), I, L))
    else
    (am_ck (0 : Int32) 2 (am_lt (I 24 ((0 : Int32)).toNatClampNeg) (fun v1 => if v1 = 0 then
      (some ((0 : Int32), I, L))
      else
      (am_ck (1 : Int32) 2 (am_lt (I 24 ((1 : Int32)).toNatClampNeg) (fun v2 => if v2 = 0 then
        (some ((0 : Int32), I, L))
        else
        (if (I 14 4) = 0 then
          (some ((0 : Int32), I, L))
          else
          (some ((1 : Int32), I, L)))))))))

set_option maxRecDepth 100000 in
set_option maxHeartbeats 4000000 in
theorem tX9_isWhole_draft {x : am_X} {al : Bool} (n d : Nat) (hc : am_ok x cX9_isWhole yX9_isWhole 1 (some .boolean) (d + 1) 0 0) {r : Int32} {I' : am_I} {L' : am_L} (I : am_I) (L : am_L) (hf : fX9_isWhole_draft n d I L = some (r, I', L')) : am_J x (fun S => S = (some (.int r), (KC al), (RC al), I', L')) 0 [some (.ref 14)] [] (KC al) (RC al) I L 0 0 := by
  unfold fX9_isWhole_draft at hf
  refine j_aload_n hc dX9_isWhole_0 rfl ?_
  refine j_getI hc dX9_isWhole_1 (fgC_X9_7_14 _) ?_
  refine j_iconst (v := (2 : Int32)) hc dX9_isWhole_4 ci_2 ?_
  refine j_icmp_lt (tgt := 37) hc dX9_isWhole_5 rfl hf (fun hf => ?_) (fun hf => ?_)
  · refine j_iconst (v := (0 : Int32)) hc dX9_isWhole_37 ci_0 ?_
    exact j_zret hc dX9_isWhole_38 rfl rfl (Or.inl rfl) hf
  · refine j_aload_n hc dX9_isWhole_8 rfl ?_
    refine j_getR (u := 24) hc dX9_isWhole_9 (fgC_X9_54_14 _) (rC_14_14 _) ?_
    refine j_iconst (v := (0 : Int32)) hc dX9_isWhole_12 ci_0 ?_
    refine j_iaload (n := 2) hc dX9_isWhole_13 (kC_24 _) hf (fun v1 hf => ?_)
    refine j_if_eq (tgt := 37) hc dX9_isWhole_14 rfl hf (fun hf => ?_) (fun hf => ?_)
    · refine j_iconst (v := (0 : Int32)) hc dX9_isWhole_37 ci_0 ?_
      exact j_zret hc dX9_isWhole_38 rfl rfl (Or.inl rfl) hf
    · refine j_aload_n hc dX9_isWhole_17 rfl ?_
      refine j_getR (u := 24) hc dX9_isWhole_18 (fgC_X9_54_14 _) (rC_14_14 _) ?_
      refine j_iconst (v := (1 : Int32)) hc dX9_isWhole_21 ci_1 ?_
      refine j_iaload (n := 2) hc dX9_isWhole_22 (kC_24 _) hf (fun v2 hf => ?_)
      refine j_if_eq (tgt := 37) hc dX9_isWhole_23 rfl hf (fun hf => ?_) (fun hf => ?_)
      · refine j_iconst (v := (0 : Int32)) hc dX9_isWhole_37 ci_0 ?_
        exact j_zret hc dX9_isWhole_38 rfl rfl (Or.inl rfl) hf
      · refine j_aload_n hc dX9_isWhole_26 rfl ?_
        refine j_getI hc dX9_isWhole_27 (fgC_X9_22_14 _) ?_
        refine j_if_eq (tgt := 37) hc dX9_isWhole_30 rfl hf (fun hf => ?_) (fun hf => ?_)
        · refine j_iconst (v := (0 : Int32)) hc dX9_isWhole_37 ci_0 ?_
          exact j_zret hc dX9_isWhole_38 rfl rfl (Or.inl rfl) hf
        · refine j_iconst (v := (1 : Int32)) hc dX9_isWhole_33 ci_1 ?_
          refine j_goto (tgt := 38) hc dX9_isWhole_34 rfl ?_
          exact j_zret hc dX9_isWhole_38 rfl rfl (Or.inr rfl) hf

set_option maxRecDepth 100000 in
theorem qX9_isWhole_draft (l : Launch) {al : Bool} (n d : Nat) (I : am_I) (L : am_L) (r : Int32) (I' : am_I) (L' : am_L) (hf : fX9_isWhole_draft n d I L = some (r, I', L')) : am_C l yX9_isWhole cX9_isWhole 1 (some .boolean) (d + 1) [.ref 14] (KC al) (RC al) I L (some (.int r)) I' L' := by
  exact am_intro (plainFor_of_name plX9) (fun _ _ => trivial) (Nat.le_of_ble_eq_true rfl) (fun x hl hc => by subst hl; exact j_sub (tX9_isWhole_draft n d hc  _ _ hf) (And.intro rfl (trivial)))
set_option maxRecDepth 100000 in
def fX10_read_b38w (n d : Nat) (k38 : Int32 → am_I → am_L → Option (Int32 × am_I × am_L)) (a1 : Int32) (I : am_I) (L : am_L) : Option (Int32 × am_I × am_L) :=
  if (240 : Int32) < a1 then
    (some ((I 25 4), I, L))
    else
    (am_b3 (fX10_readClause n d I L) (fun v1 I1 L1 => if v1 = 0 then
      (some ((I1 25 4), I1, L1))
      else
      (if (I1 25 4) < (I1 1 1) then
        (am_b2 (fX10_goOn n d I1 L1) (fun I2 L2 => am_lt (a1 + (1 : Int32)) (fun v3 => k38 v3 I2 L2)))
        else
        (am_b3 (fX9_isWhole_draft n d I1 L1) (fun v4 I4 L4 => if v4 = 0 then
          (some ((I4 1 1), I4, L4))
          else
          (some ((-1 : Int32), I4, L4)))))))

set_option maxRecDepth 100000 in
set_option maxHeartbeats 4000000 in
theorem tX10_read_b38w {x : am_X} {al : Bool} (n d : Nat) (hc : am_ok x cX10_read yX10_read 2 (some .int) (d + 7) 0 0) {r : Int32} {I' : am_I} {L' : am_L} (k38 : Int32 → am_I → am_L → Option (Int32 × am_I × am_L)) (hk38 : ∀ (a1 : Int32) (I : am_I) (L : am_L), k38 a1 I L = some (r, I', L') → am_J x (fun S => S = (some (.int r), (KC al), (RC al), I', L')) 38 [some (.ref 25), some (.int a1)] [] (KC al) (RC al) I L 0 0) (a1 : Int32) (I : am_I) (L : am_L) (hf : fX10_read_b38w n d k38 a1 I L = some (r, I', L')) : am_J x (fun S => S = (some (.int r), (KC al), (RC al), I', L')) 38 [some (.ref 25), some (.int a1)] [] (KC al) (RC al) I L 0 0 := by
  unfold fX10_read_b38w at hf
  refine j_iload_n hc dX10_read_38 rfl ?_
  refine j_sipush (v := (240 : Int32)) hc dX10_read_39 cs_240 ?_
  refine j_icmp_gt (tgt := 103) hc dX10_read_42 rfl hf (fun hf => ?_) (fun hf => ?_)
  · refine j_aload_n hc dX10_read_103 rfl ?_
    refine j_getI hc dX10_read_104 (fgC_X10_19_25 _) ?_
    exact j_ireturn hc dX10_read_107 rfl rfl hf
  · refine j_aload_n hc dX10_read_45 rfl ?_
    refine j_callVI (t := 25) (As := []) hc dX10_read_46 kw_585 mX10_readClause (kC_25 _) clX10 rfl (by omega) (Nat.le_of_ble_eq_true rfl) (Nat.le_of_ble_eq_true rfl) ⟨Nat.le_refl _, Nat.le_refl _⟩ hf (fun v I' L' h => qX10_readClause x.2.1 n d I L v I' L' h) (fun v1 I1 L1 hf => ?_)
    refine j_if_ne (tgt := 57) hc dX10_read_49 rfl hf (fun hf => ?_) (fun hf => ?_)
    · refine j_aload_n hc dX10_read_57 rfl ?_
      refine j_getI hc dX10_read_58 (fgC_X10_19_25 _) ?_
      refine j_aload_n hc dX10_read_61 rfl ?_
      refine j_getR (u := 1) hc dX10_read_62 (fgC_X10_26_25 _) (rC_25_0 _) ?_
      refine j_getI hc dX10_read_65 (fgC_X10_53_1 _) ?_
      refine j_icmp_lt (tgt := 93) hc dX10_read_68 rfl hf (fun hf => ?_) (fun hf => ?_)
      · refine j_aload_n hc dX10_read_93 rfl ?_
        refine j_callVV (t := 25) (As := []) hc dX10_read_94 kw_600 mX10_goOn (kC_25 _) clX10 rfl (by omega) (Nat.le_of_ble_eq_true rfl) (Nat.le_of_ble_eq_true rfl) ⟨Nat.le_refl _, Nat.le_refl _⟩ hf (fun I' L' h => qX10_goOn x.2.1 n d I1 L1 I' L' h) (fun I2 L2 hf => ?_)
        refine j_iinc (w := (1 : Int32)) hc dX10_read_97 rfl ci_1 (Nat.le_of_ble_eq_true rfl) hf (fun v3 hf => ?_)
        refine j_goto (tgt := 38) hc dX10_read_100 rfl ?_
        exact j_sub (hk38 _ _ _ hf) (And.intro rfl (And.intro rfl (trivial)))
      · refine j_aload_n hc dX10_read_71 rfl ?_
        refine j_getR (u := 14) hc dX10_read_72 (fgC_X10_30_25 _) (rC_25_1 _) ?_
        refine j_callVI (t := 14) (As := []) hc dX10_read_75 kw_725 mX9_isWhole (kC_14 _) clX9 rfl (by omega) (Nat.le_of_ble_eq_true rfl) (Nat.le_of_ble_eq_true rfl) ⟨Nat.le_refl _, Nat.le_refl _⟩ hf (fun v I' L' h => qX9_isWhole_draft x.2.1 n d I1 L1 v I' L' h) (fun v4 I4 L4 hf => ?_)
        refine j_if_eq (tgt := 85) hc dX10_read_78 rfl hf (fun hf => ?_) (fun hf => ?_)
        · refine j_aload_n hc dX10_read_85 rfl ?_
          refine j_getR (u := 1) hc dX10_read_86 (fgC_X10_26_25 _) (rC_25_0 _) ?_
          refine j_getI hc dX10_read_89 (fgC_X10_53_1 _) ?_
          exact j_ireturn hc dX10_read_92 rfl rfl hf
        · refine j_iconst (v := (-1 : Int32)) hc dX10_read_81 ci_m1 ?_
          refine j_goto (tgt := 92) hc dX10_read_82 rfl ?_
          exact j_ireturn hc dX10_read_92 rfl rfl hf
    · refine j_aload_n hc dX10_read_52 rfl ?_
      refine j_getI hc dX10_read_53 (fgC_X10_19_25 _) ?_
      exact j_ireturn hc dX10_read_56 rfl rfl hf

def fX10_read_b38 (n d : Nat) : Nat → Int32 → am_I → am_L → Option (Int32 × am_I × am_L)
  | 0 => fun _ _ _ => none
  | m + 1 => fX10_read_b38w n d  (fX10_read_b38 n d m)

set_option maxRecDepth 100000 in
theorem tX10_read_b38 {x : am_X} {al : Bool} (n d : Nat) (hc : am_ok x cX10_read yX10_read 2 (some .int) (d + 7) 0 0) {r : Int32} {I' : am_I} {L' : am_L} (m : Nat) : ∀ (a1 : Int32) (I : am_I) (L : am_L) (hf : fX10_read_b38 n d m a1 I L = some (r, I', L')), am_J x (fun S => S = (some (.int r), (KC al), (RC al), I', L')) 38 [some (.ref 25), some (.int a1)] [] (KC al) (RC al) I L 0 0 := by
  induction m with
  | zero => intro a1 I L hf; exact (Option.some_ne_none _ hf.symm).elim
  | succ m ih => intro a1 I L hf; exact tX10_read_b38w n d hc (fX10_read_b38 n d m) ih a1 I L hf

set_option maxRecDepth 100000 in
def fX10_read (n d : Nat) (I : am_I) (L : am_L) : Option (Int32 × am_I × am_L) :=
  am_ck (8 : Int32) 10 (am_lt (am_cW ((8 : Int32)).toNatClampNeg) (fun v1 => am_ck (9 : Int32) 10 (am_lt (am_cW ((9 : Int32)).toNatClampNeg) (fun v2 => am_b2 (fX9_clear_draft n d v1 v2 I L) (fun I3 L3 => am_bl (0 : Int32) (am_lt (am_up I3 25 5 (0 : Int32)) (fun I4 => am_b3 (fX8_behindBlanks n d (0 : Int32) I4 L3) (fun v5 I5 L5 => am_lt (am_up I5 25 4 v5) (fun I6 => am_lt (0 : Int32) (fun v7 => fX10_read_b38 n d n v7 I6 L5))))))))))

set_option maxRecDepth 100000 in
set_option maxHeartbeats 4000000 in
theorem tX10_read {x : am_X} {al : Bool} (n d : Nat) (hc : am_ok x cX10_read yX10_read 2 (some .int) (d + 7) 0 0) {r : Int32} {I' : am_I} {L' : am_L} (I : am_I) (L : am_L) (hf : fX10_read n d I L = some (r, I', L')) : am_J x (fun S => S = (some (.int r), (KC al), (RC al), I', L')) 0 [some (.ref 25), none] [] (KC al) (RC al) I L 0 0 := by
  unfold fX10_read at hf
  refine j_aload_n hc dX10_read_0 rfl ?_
  refine j_getR (u := 14) hc dX10_read_1 (fgC_X10_30_25 _) (rC_25_1 _) ?_
  refine j_getst (v := .ref 1000001) hc dX10_read_4 kw_575 cZWITHOUT ?_
  refine j_bipush (v := (8 : Int32)) hc dX10_read_7 cb_8 ?_
  refine j_ialdC (t := 1000001) (n := 10) (f := am_cW) hc dX10_read_9 cTW hf (fun v1 hf => ?_)
  refine j_getst (v := .ref 1000001) hc dX10_read_10 kw_575 cZWITHOUT ?_
  refine j_bipush (v := (9 : Int32)) hc dX10_read_13 cb_9 ?_
  refine j_ialdC (t := 1000001) (n := 10) (f := am_cW) hc dX10_read_15 cTW hf (fun v2 hf => ?_)
  refine j_callVV (t := 14) (As := [.int v1, .int v2]) hc dX10_read_16 kw_577 mX9_clear (kC_14 _) clX9 rfl (by omega) (Nat.le_of_ble_eq_true rfl) (Nat.le_of_ble_eq_true rfl) ⟨Nat.le_refl _, Nat.le_refl _⟩ hf (fun I' L' h => qX9_clear_draft x.2.1 n d v1 v2 I L I' L' h) (fun I3 L3 hf => ?_)
  refine j_aload_n hc dX10_read_19 rfl ?_
  refine j_iconst (v := (0 : Int32)) hc dX10_read_20 ci_0 ?_
  refine j_putZ hc dX10_read_21 (fpC_X10_22_25 _) rfl hf (fun I4 hf => ?_)
  refine j_aload_n hc dX10_read_24 rfl ?_
  refine j_aload_n hc dX10_read_25 rfl ?_
  refine j_getR (u := 1) hc dX10_read_26 (fgC_X10_26_25 _) (rC_25_0 _) ?_
  refine j_iconst (v := (0 : Int32)) hc dX10_read_29 ci_0 ?_
  refine j_callVI (t := 1) (As := [.int (0 : Int32)]) hc dX10_read_30 kw_581 mX8_behindBlanks (kC_1 _) clX8 rfl (by omega) (Nat.le_of_ble_eq_true rfl) (Nat.le_of_ble_eq_true rfl) ⟨Nat.le_refl _, Nat.le_refl _⟩ hf (fun v I' L' h => qX8_behindBlanks x.2.1 n d (0 : Int32) I4 L3 v I' L' h) (fun v5 I5 L5 hf => ?_)
  refine j_putI hc dX10_read_33 (fpC_X10_19_25 _) rfl rfl hf (fun I6 hf => ?_)
  refine j_iconst (v := (0 : Int32)) hc dX10_read_36 ci_0 ?_
  refine j_istore_n hc dX10_read_37 (Nat.le_of_ble_eq_true rfl) hf (fun v7 hf => ?_)
  exact j_sub (tX10_read_b38 n d hc n _ _ _ hf) (And.intro rfl (And.intro rfl (trivial)))

set_option maxRecDepth 100000 in
theorem qX10_read (l : Launch) {al : Bool} (n d : Nat) (I : am_I) (L : am_L) (r : Int32) (I' : am_I) (L' : am_L) (hf : fX10_read n d I L = some (r, I', L')) : am_C l yX10_read cX10_read 2 (some .int) (d + 7) [.ref 25] (KC al) (RC al) I L (some (.int r)) I' L' := by
  exact am_intro (plainFor_of_name plX10) (fun _ _ => trivial) (Nat.le_of_ble_eq_true rfl) (fun x hl hc => by subst hl; exact j_sub (tX10_read n d hc  _ _ hf) (And.intro rfl (trivial)))
set_option maxRecDepth 100000 in
def fX2_takes (n d : Nat) (a1 : Int32) (I : am_I) (L : am_L) : Option (Int32 × am_I × am_L) :=
  am_b3 (fX8_at n d (I 27 3) I L) (fun v1 I1 L1 => if v1 = a1 then
    (am_b3 (fX8_behindBlanks n d ((I1 27 3) + (1 : Int32)) I1 L1) (fun v2 I2 L2 => am_lt (am_up I2 27 3 v2) (fun I3 => some ((1 : Int32), I3, L2))))
    else
    (some ((0 : Int32), I1, L1)))

set_option maxRecDepth 100000 in
set_option maxHeartbeats 4000000 in
theorem tX2_takes {x : am_X} {al : Bool} (n d : Nat) (hc : am_ok x cX2_takes yX2_takes 2 (some .boolean) (d + 2) 0 0) {r : Int32} {I' : am_I} {L' : am_L} (a1 : Int32) (I : am_I) (L : am_L) (hf : fX2_takes n d a1 I L = some (r, I', L')) : am_J x (fun S => S = (some (.int r), (KC al), (RC al), I', L')) 0 [some (.ref 27), some (.int a1)] [] (KC al) (RC al) I L 0 0 := by
  unfold fX2_takes at hf
  refine j_aload_n hc dX2_takes_0 rfl ?_
  refine j_getR (u := 1) hc dX2_takes_1 (fgC_X2_24_27 _) (rC_27_0 _) ?_
  refine j_aload_n hc dX2_takes_4 rfl ?_
  refine j_getI hc dX2_takes_5 (fgC_X2_21_27 _) ?_
  refine j_callVI (t := 1) (As := [.int (I 27 3)]) hc dX2_takes_8 kw_742 mX8_at (kC_1 _) clX8 rfl (by omega) (Nat.le_of_ble_eq_true rfl) (Nat.le_of_ble_eq_true rfl) ⟨Nat.le_refl _, Nat.le_refl _⟩ hf (fun v I' L' h => qX8_at x.2.1 n d (I 27 3) I L v I' L' h) (fun v1 I1 L1 hf => ?_)
  refine j_iload_n hc dX2_takes_11 rfl ?_
  refine j_icmp_eq (tgt := 17) hc dX2_takes_12 rfl hf (fun hf => ?_) (fun hf => ?_)
  · refine j_aload_n hc dX2_takes_17 rfl ?_
    refine j_aload_n hc dX2_takes_18 rfl ?_
    refine j_getR (u := 1) hc dX2_takes_19 (fgC_X2_24_27 _) (rC_27_0 _) ?_
    refine j_aload_n hc dX2_takes_22 rfl ?_
    refine j_getI hc dX2_takes_23 (fgC_X2_21_27 _) ?_
    refine j_iconst (v := (1 : Int32)) hc dX2_takes_26 ci_1 ?_
    refine j_iadd hc dX2_takes_27 ?_
    refine j_callVI (t := 1) (As := [.int ((I1 27 3) + (1 : Int32))]) hc dX2_takes_28 kw_733 mX8_behindBlanks (kC_1 _) clX8 rfl (by omega) (Nat.le_of_ble_eq_true rfl) (Nat.le_of_ble_eq_true rfl) ⟨Nat.le_refl _, Nat.le_refl _⟩ hf (fun v I' L' h => qX8_behindBlanks x.2.1 n d ((I1 27 3) + (1 : Int32)) I1 L1 v I' L' h) (fun v2 I2 L2 hf => ?_)
    refine j_putI hc dX2_takes_31 (fpC_X2_21_27 _) rfl rfl hf (fun I3 hf => ?_)
    refine j_iconst (v := (1 : Int32)) hc dX2_takes_34 ci_1 ?_
    exact j_zret hc dX2_takes_35 rfl rfl (Or.inr rfl) hf
  · refine j_iconst (v := (0 : Int32)) hc dX2_takes_15 ci_0 ?_
    exact j_zret hc dX2_takes_16 rfl rfl (Or.inl rfl) hf

set_option maxRecDepth 100000 in
theorem qX2_takes (l : Launch) {al : Bool} (n d : Nat) (a1 : Int32) (I : am_I) (L : am_L) (r : Int32) (I' : am_I) (L' : am_L) (hf : fX2_takes n d a1 I L = some (r, I', L')) : am_C l yX2_takes cX2_takes 2 (some .boolean) (d + 2) [.ref 27, .int a1] (KC al) (RC al) I L (some (.int r)) I' L' := by
  exact am_intro (plainFor_of_name plX2) (fun _ _ => trivial) (Nat.le_of_ble_eq_true rfl) (fun x hl hc => by subst hl; exact j_sub (tX2_takes n d hc _ _ _ hf) (And.intro rfl (And.intro rfl (trivial))))
set_option maxRecDepth 100000 in
def fX2_put (n d : Nat) (a1 : Int32) (I : am_I) (L : am_L) : Option (am_I × am_L) :=
  if (I 27 2) < 0 then
    (some (I, L))
    else
    (if (240 : Int32) ≤ (I 27 2) then
      (some (I, L))
      else
      (am_ck (I 27 2) 240 (am_lt (am_up I 28 ((I 27 2)).toNatClampNeg a1) (fun I1 => am_lt (am_up I1 27 2 ((I1 27 2) + (1 : Int32))) (fun I2 => some (I2, L))))))

set_option maxRecDepth 100000 in
set_option maxHeartbeats 4000000 in
theorem tX2_put {x : am_X} {al : Bool} (n d : Nat) (hc : am_ok x cX2_put yX2_put 2 none (d + 1) 0 0) {I' : am_I} {L' : am_L} (a1 : Int32) (I : am_I) (L : am_L) (hf : fX2_put n d a1 I L = some (I', L')) : am_J x (fun S => S = (none, (KC al), (RC al), I', L')) 0 [some (.ref 27), some (.int a1)] [] (KC al) (RC al) I L 0 0 := by
  unfold fX2_put at hf
  refine j_aload_n hc dX2_put_0 rfl ?_
  refine j_getI hc dX2_put_1 (fgC_X2_17_27 _) ?_
  refine j_if_lt (tgt := 39) hc dX2_put_4 rfl hf (fun hf => ?_) (fun hf => ?_)
  · exact j_return hc dX2_put_39 rfl rfl hf
  · refine j_aload_n hc dX2_put_7 rfl ?_
    refine j_getI hc dX2_put_8 (fgC_X2_17_27 _) ?_
    refine j_aload_n hc dX2_put_11 rfl ?_
    refine j_getR (u := 28) hc dX2_put_12 (fgC_X2_11_27 _) (rC_27_1 _) ?_
    refine j_alen0 (v := (240 : Int32)) hc dX2_put_15 (kC_28 _) cn_240 ?_
    refine j_icmp_ge (tgt := 39) hc dX2_put_16 rfl hf (fun hf => ?_) (fun hf => ?_)
    · exact j_return hc dX2_put_39 rfl rfl hf
    · refine j_aload_n hc dX2_put_19 rfl ?_
      refine j_getR (u := 28) hc dX2_put_20 (fgC_X2_11_27 _) (rC_27_1 _) ?_
      refine j_aload_n hc dX2_put_23 rfl ?_
      refine j_getI hc dX2_put_24 (fgC_X2_17_27 _) ?_
      refine j_iload_n hc dX2_put_27 rfl ?_
      refine j_iastore (n := 240) hc dX2_put_28 (kC_28 _) hf (fun I1 hf => ?_)
      refine j_aload_n hc dX2_put_29 rfl ?_
      refine j_dup hc dX2_put_30 rfl ?_
      refine j_getI hc dX2_put_31 (fgC_X2_17_27 _) ?_
      refine j_iconst (v := (1 : Int32)) hc dX2_put_34 ci_1 ?_
      refine j_iadd hc dX2_put_35 ?_
      refine j_putI hc dX2_put_36 (fpC_X2_17_27 _) rfl rfl hf (fun I2 hf => ?_)
      exact j_return hc dX2_put_39 rfl rfl hf

set_option maxRecDepth 100000 in
theorem qX2_put (l : Launch) {al : Bool} (n d : Nat) (a1 : Int32) (I : am_I) (L : am_L) (I' : am_I) (L' : am_L) (hf : fX2_put n d a1 I L = some (I', L')) : am_C l yX2_put cX2_put 2 none (d + 1) [.ref 27, .int a1] (KC al) (RC al) I L none I' L' := by
  exact am_intro (plainFor_of_name plX2) (fun _ _ => trivial) (Nat.le_of_ble_eq_true rfl) (fun x hl hc => by subst hl; exact j_sub (tX2_put n d hc _ _ _ hf) (And.intro rfl (And.intro rfl (trivial))))
set_option maxRecDepth 100000 in
def fX2_readNumber_b59 (n d : Nat) (a1 : Int32) (I : am_I) (L : am_L) : Option (Int32 × am_I × am_L) :=
  am_b3 (fX8_digitAt n d (I 27 3) I L) (fun v1 I1 L1 => if v1 = 0 then
    (am_b2 (fX2_put n d a1 I1 L1) (fun I2 L2 => am_b3 (fX8_behindBlanks n d (I2 27 3) I2 L2) (fun v3 I3 L3 => am_lt (am_up I3 27 3 v3) (fun I4 => some ((1 : Int32), I4, L3)))))
    else
    (some ((0 : Int32), I1, L1)))

set_option maxRecDepth 100000 in
set_option maxHeartbeats 4000000 in
theorem tX2_readNumber_b59 {x : am_X} {al : Bool} (n d : Nat) (hc : am_ok x cX2_readNumber yX2_readNumber 3 (some .boolean) (d + 2) 0 0) {r : Int32} {I' : am_I} {L' : am_L} (a1 : Int32) (I : am_I) (L : am_L) (hf : fX2_readNumber_b59 n d a1 I L = some (r, I', L')) : am_J x (fun S => S = (some (.int r), (KC al), (RC al), I', L')) 59 [some (.ref 27), some (.int a1), none] [] (KC al) (RC al) I L 0 0 := by
  unfold fX2_readNumber_b59 at hf
  refine j_aload_n hc dX2_readNumber_59 rfl ?_
  refine j_getR (u := 1) hc dX2_readNumber_60 (fgC_X2_24_27 _) (rC_27_0 _) ?_
  refine j_aload_n hc dX2_readNumber_63 rfl ?_
  refine j_getI hc dX2_readNumber_64 (fgC_X2_21_27 _) ?_
  refine j_callVI (t := 1) (As := [.int (I 27 3)]) hc dX2_readNumber_67 kw_763 mX8_digitAt (kC_1 _) clX8 rfl (by omega) (Nat.le_of_ble_eq_true rfl) (Nat.le_of_ble_eq_true rfl) ⟨Nat.le_refl _, Nat.le_refl _⟩ hf (fun v I' L' h => qX8_digitAt x.2.1 n d (I 27 3) I L v I' L' h) (fun v1 I1 L1 hf => ?_)
  refine j_if_eq (tgt := 75) hc dX2_readNumber_70 rfl hf (fun hf => ?_) (fun hf => ?_)
  · refine j_aload_n hc dX2_readNumber_75 rfl ?_
    refine j_iload_n hc dX2_readNumber_76 rfl ?_
    refine j_callVV (t := 27) (As := [.int a1]) hc dX2_readNumber_77 kw_768 mX2_put (kC_27 _) clX2 rfl (by omega) (Nat.le_of_ble_eq_true rfl) (Nat.le_of_ble_eq_true rfl) ⟨Nat.le_refl _, Nat.le_refl _⟩ hf (fun I' L' h => qX2_put x.2.1 n d a1 I1 L1 I' L' h) (fun I2 L2 hf => ?_)
    refine j_aload_n hc dX2_readNumber_80 rfl ?_
    refine j_aload_n hc dX2_readNumber_81 rfl ?_
    refine j_getR (u := 1) hc dX2_readNumber_82 (fgC_X2_24_27 _) (rC_27_0 _) ?_
    refine j_aload_n hc dX2_readNumber_85 rfl ?_
    refine j_getI hc dX2_readNumber_86 (fgC_X2_21_27 _) ?_
    refine j_callVI (t := 1) (As := [.int (I2 27 3)]) hc dX2_readNumber_89 kw_733 mX8_behindBlanks (kC_1 _) clX8 rfl (by omega) (Nat.le_of_ble_eq_true rfl) (Nat.le_of_ble_eq_true rfl) ⟨Nat.le_refl _, Nat.le_refl _⟩ hf (fun v I' L' h => qX8_behindBlanks x.2.1 n d (I2 27 3) I2 L2 v I' L' h) (fun v3 I3 L3 hf => ?_)
    refine j_putI hc dX2_readNumber_92 (fpC_X2_21_27 _) rfl rfl hf (fun I4 hf => ?_)
    refine j_iconst (v := (1 : Int32)) hc dX2_readNumber_95 ci_1 ?_
    exact j_zret hc dX2_readNumber_96 rfl rfl (Or.inr rfl) hf
  · refine j_iconst (v := (0 : Int32)) hc dX2_readNumber_73 ci_0 ?_
    exact j_zret hc dX2_readNumber_74 rfl rfl (Or.inl rfl) hf

set_option maxRecDepth 100000 in
def fX2_readNumber_b4w (n d : Nat) (k4 : Int32 → Int32 → am_I → am_L → Option (Int32 × am_I × am_L)) (a1 : Int32) (a2 : Int32) (I : am_I) (L : am_L) : Option (Int32 × am_I × am_L) :=
  if (4 : Int32) ≤ a2 then
    (fX2_readNumber_b59 n d a1 I L)
    else
    (am_b3 (fX8_digitAt n d (I 27 3) I L) (fun v1 I1 L1 => if v1 = 0 then
      (fX2_readNumber_b59 n d a1 I1 L1)
      else
      (am_b3 (fX8_at n d (I1 27 3) I1 L1) (fun v2 I2 L2 => am_lt (((a1 * (10 : Int32)) + v2) - (48 : Int32)) (fun v3 => am_lt (am_up I2 27 3 ((I2 27 3) + (1 : Int32))) (fun I4 => am_lt (a2 + (1 : Int32)) (fun v5 => k4 v3 v5 I4 L2)))))))

set_option maxRecDepth 100000 in
set_option maxHeartbeats 4000000 in
theorem tX2_readNumber_b4w {x : am_X} {al : Bool} (n d : Nat) (hc : am_ok x cX2_readNumber yX2_readNumber 3 (some .boolean) (d + 2) 0 0) {r : Int32} {I' : am_I} {L' : am_L} (k4 : Int32 → Int32 → am_I → am_L → Option (Int32 × am_I × am_L)) (hk4 : ∀ (a1 : Int32) (a2 : Int32) (I : am_I) (L : am_L), k4 a1 a2 I L = some (r, I', L') → am_J x (fun S => S = (some (.int r), (KC al), (RC al), I', L')) 4 [some (.ref 27), some (.int a1), some (.int a2)] [] (KC al) (RC al) I L 0 0) (a1 : Int32) (a2 : Int32) (I : am_I) (L : am_L) (hf : fX2_readNumber_b4w n d k4 a1 a2 I L = some (r, I', L')) : am_J x (fun S => S = (some (.int r), (KC al), (RC al), I', L')) 4 [some (.ref 27), some (.int a1), some (.int a2)] [] (KC al) (RC al) I L 0 0 := by
  unfold fX2_readNumber_b4w at hf
  refine j_iload_n hc dX2_readNumber_4 rfl ?_
  refine j_iconst (v := (4 : Int32)) hc dX2_readNumber_5 ci_4 ?_
  refine j_icmp_ge (tgt := 59) hc dX2_readNumber_6 rfl hf (fun hf => ?_) (fun hf => ?_)
  · exact j_sub (tX2_readNumber_b59 n d hc _ _ _ hf) (And.intro rfl (And.intro rfl (trivial)))
  · refine j_aload_n hc dX2_readNumber_9 rfl ?_
    refine j_getR (u := 1) hc dX2_readNumber_10 (fgC_X2_24_27 _) (rC_27_0 _) ?_
    refine j_aload_n hc dX2_readNumber_13 rfl ?_
    refine j_getI hc dX2_readNumber_14 (fgC_X2_21_27 _) ?_
    refine j_callVI (t := 1) (As := [.int (I 27 3)]) hc dX2_readNumber_17 kw_763 mX8_digitAt (kC_1 _) clX8 rfl (by omega) (Nat.le_of_ble_eq_true rfl) (Nat.le_of_ble_eq_true rfl) ⟨Nat.le_refl _, Nat.le_refl _⟩ hf (fun v I' L' h => qX8_digitAt x.2.1 n d (I 27 3) I L v I' L' h) (fun v1 I1 L1 hf => ?_)
    refine j_if_eq (tgt := 59) hc dX2_readNumber_20 rfl hf (fun hf => ?_) (fun hf => ?_)
    · exact j_sub (tX2_readNumber_b59 n d hc _ _ _ hf) (And.intro rfl (And.intro rfl (trivial)))
    · refine j_iload_n hc dX2_readNumber_23 rfl ?_
      refine j_bipush (v := (10 : Int32)) hc dX2_readNumber_24 cb_10 ?_
      refine j_imul hc dX2_readNumber_26 ?_
      refine j_aload_n hc dX2_readNumber_27 rfl ?_
      refine j_getR (u := 1) hc dX2_readNumber_28 (fgC_X2_24_27 _) (rC_27_0 _) ?_
      refine j_aload_n hc dX2_readNumber_31 rfl ?_
      refine j_getI hc dX2_readNumber_32 (fgC_X2_21_27 _) ?_
      refine j_callVI (t := 1) (As := [.int (I1 27 3)]) hc dX2_readNumber_35 kw_742 mX8_at (kC_1 _) clX8 rfl (by omega) (Nat.le_of_ble_eq_true rfl) (Nat.le_of_ble_eq_true rfl) ⟨Nat.le_refl _, Nat.le_refl _⟩ hf (fun v I' L' h => qX8_at x.2.1 n d (I1 27 3) I1 L1 v I' L' h) (fun v2 I2 L2 hf => ?_)
      refine j_iadd hc dX2_readNumber_38 ?_
      refine j_bipush (v := (48 : Int32)) hc dX2_readNumber_39 cb_48 ?_
      refine j_isub hc dX2_readNumber_41 ?_
      refine j_istore_n hc dX2_readNumber_42 (Nat.le_of_ble_eq_true rfl) hf (fun v3 hf => ?_)
      refine j_aload_n hc dX2_readNumber_43 rfl ?_
      refine j_dup hc dX2_readNumber_44 rfl ?_
      refine j_getI hc dX2_readNumber_45 (fgC_X2_21_27 _) ?_
      refine j_iconst (v := (1 : Int32)) hc dX2_readNumber_48 ci_1 ?_
      refine j_iadd hc dX2_readNumber_49 ?_
      refine j_putI hc dX2_readNumber_50 (fpC_X2_21_27 _) rfl rfl hf (fun I4 hf => ?_)
      refine j_iinc (w := (1 : Int32)) hc dX2_readNumber_53 rfl ci_1 (Nat.le_of_ble_eq_true rfl) hf (fun v5 hf => ?_)
      refine j_goto (tgt := 4) hc dX2_readNumber_56 rfl ?_
      exact j_sub (hk4 _ _ _ _ hf) (And.intro rfl (And.intro rfl (And.intro rfl (trivial))))

def fX2_readNumber_b4 (n d : Nat) : Nat → Int32 → Int32 → am_I → am_L → Option (Int32 × am_I × am_L)
  | 0 => fun _ _ _ _ => none
  | m + 1 => fX2_readNumber_b4w n d  (fX2_readNumber_b4 n d m)

set_option maxRecDepth 100000 in
theorem tX2_readNumber_b4 {x : am_X} {al : Bool} (n d : Nat) (hc : am_ok x cX2_readNumber yX2_readNumber 3 (some .boolean) (d + 2) 0 0) {r : Int32} {I' : am_I} {L' : am_L} (m : Nat) : ∀ (a1 : Int32) (a2 : Int32) (I : am_I) (L : am_L) (hf : fX2_readNumber_b4 n d m a1 a2 I L = some (r, I', L')), am_J x (fun S => S = (some (.int r), (KC al), (RC al), I', L')) 4 [some (.ref 27), some (.int a1), some (.int a2)] [] (KC al) (RC al) I L 0 0 := by
  induction m with
  | zero => intro a1 a2 I L hf; exact (Option.some_ne_none _ hf.symm).elim
  | succ m ih => intro a1 a2 I L hf; exact tX2_readNumber_b4w n d hc (fX2_readNumber_b4 n d m) ih a1 a2 I L hf

set_option maxRecDepth 100000 in
def fX2_readNumber (n d : Nat) (I : am_I) (L : am_L) : Option (Int32 × am_I × am_L) :=
  am_lt (0 : Int32) (fun v1 => am_lt (0 : Int32) (fun v2 => fX2_readNumber_b4 n d n v1 v2 I L))

set_option maxRecDepth 100000 in
set_option maxHeartbeats 4000000 in
theorem tX2_readNumber {x : am_X} {al : Bool} (n d : Nat) (hc : am_ok x cX2_readNumber yX2_readNumber 3 (some .boolean) (d + 2) 0 0) {r : Int32} {I' : am_I} {L' : am_L} (I : am_I) (L : am_L) (hf : fX2_readNumber n d I L = some (r, I', L')) : am_J x (fun S => S = (some (.int r), (KC al), (RC al), I', L')) 0 [some (.ref 27), none, none] [] (KC al) (RC al) I L 0 0 := by
  unfold fX2_readNumber at hf
  refine j_iconst (v := (0 : Int32)) hc dX2_readNumber_0 ci_0 ?_
  refine j_istore_n hc dX2_readNumber_1 (Nat.le_of_ble_eq_true rfl) hf (fun v1 hf => ?_)
  refine j_iconst (v := (0 : Int32)) hc dX2_readNumber_2 ci_0 ?_
  refine j_istore_n hc dX2_readNumber_3 (Nat.le_of_ble_eq_true rfl) hf (fun v2 hf => ?_)
  exact j_sub (tX2_readNumber_b4 n d hc n _ _ _ _ hf) (And.intro rfl (And.intro rfl (And.intro rfl (trivial))))

set_option maxRecDepth 100000 in
theorem qX2_readNumber (l : Launch) {al : Bool} (n d : Nat) (I : am_I) (L : am_L) (r : Int32) (I' : am_I) (L' : am_L) (hf : fX2_readNumber n d I L = some (r, I', L')) : am_C l yX2_readNumber cX2_readNumber 3 (some .boolean) (d + 2) [.ref 27] (KC al) (RC al) I L (some (.int r)) I' L' := by
  exact am_intro (plainFor_of_name plX2) (fun _ _ => trivial) (Nat.le_of_ble_eq_true rfl) (fun x hl hc => by subst hl; exact j_sub (tX2_readNumber n d hc  _ _ hf) (And.intro rfl (trivial)))
set_option maxRecDepth 100000 in
def fX2_goOn (n d : Nat) (I : am_I) (L : am_L) : Option (am_I × am_L) :=
  am_b3 (fX8_behindBlanks n d ((I 27 3) + (1 : Int32)) I L) (fun v1 I1 L1 => am_lt (am_up I1 27 3 v1) (fun I2 => some (I2, L1)))

set_option maxRecDepth 100000 in
set_option maxHeartbeats 4000000 in
theorem tX2_goOn {x : am_X} {al : Bool} (n d : Nat) (hc : am_ok x cX2_goOn yX2_goOn 1 none (d + 2) 0 0) {I' : am_I} {L' : am_L} (I : am_I) (L : am_L) (hf : fX2_goOn n d I L = some (I', L')) : am_J x (fun S => S = (none, (KC al), (RC al), I', L')) 0 [some (.ref 27)] [] (KC al) (RC al) I L 0 0 := by
  unfold fX2_goOn at hf
  refine j_aload_n hc dX2_goOn_0 rfl ?_
  refine j_aload_n hc dX2_goOn_1 rfl ?_
  refine j_getR (u := 1) hc dX2_goOn_2 (fgC_X2_24_27 _) (rC_27_0 _) ?_
  refine j_aload_n hc dX2_goOn_5 rfl ?_
  refine j_getI hc dX2_goOn_6 (fgC_X2_21_27 _) ?_
  refine j_iconst (v := (1 : Int32)) hc dX2_goOn_9 ci_1 ?_
  refine j_iadd hc dX2_goOn_10 ?_
  refine j_callVI (t := 1) (As := [.int ((I 27 3) + (1 : Int32))]) hc dX2_goOn_11 kw_733 mX8_behindBlanks (kC_1 _) clX8 rfl (by omega) (Nat.le_of_ble_eq_true rfl) (Nat.le_of_ble_eq_true rfl) ⟨Nat.le_refl _, Nat.le_refl _⟩ hf (fun v I' L' h => qX8_behindBlanks x.2.1 n d ((I 27 3) + (1 : Int32)) I L v I' L' h) (fun v1 I1 L1 hf => ?_)
  refine j_putI hc dX2_goOn_14 (fpC_X2_21_27 _) rfl rfl hf (fun I2 hf => ?_)
  exact j_return hc dX2_goOn_17 rfl rfl hf

set_option maxRecDepth 100000 in
theorem qX2_goOn (l : Launch) {al : Bool} (n d : Nat) (I : am_I) (L : am_L) (I' : am_I) (L' : am_L) (hf : fX2_goOn n d I L = some (I', L')) : am_C l yX2_goOn cX2_goOn 1 none (d + 2) [.ref 27] (KC al) (RC al) I L none I' L' := by
  exact am_intro (plainFor_of_name plX2) (fun _ _ => trivial) (Nat.le_of_ble_eq_true rfl) (fun x hl hc => by subst hl; exact j_sub (tX2_goOn n d hc  _ _ hf) (And.intro rfl (trivial)))
set_option maxRecDepth 100000 in
def fJ0_isLatin1_aae02_k12 (n d : Nat) (I : am_I) (L : am_L) : Option (Int32 × am_I × am_L) :=
  if (1 : Int32) = 0 then
    (none)
    else
    (if (0 : Int32) = 0 then
      (some ((1 : Int32), I, L))
      else
      (none))

set_option maxRecDepth 100000 in
set_option maxHeartbeats 4000000 in
theorem tJ0_isLatin1_aae02_k12 {x : am_X} {al : Bool} (n d : Nat) (hc : am_ok x cJ0_isLatin1_aae02 yJ0_isLatin1_aae02 1 (some .boolean) (d + 1) 0 0) {r : Int32} {I' : am_I} {L' : am_L} (I : am_I) (L : am_L) (hf : fJ0_isLatin1_aae02_k12 n d I L = some (r, I', L')) : am_J x (fun S => S = (some (.int r), (KC al), (RC al), I', L')) 0 [some (.ref 1000012)] [] (KC al) (RC al) I L 0 0 := by
  unfold fJ0_isLatin1_aae02_k12 at hf
  refine j_getst (v := .int 1) hc dJ0_isLatin1_aae02_0 kw_627 cZCOMPACT_STRINGS ?_
  refine j_if_eq (tgt := 17) hc dJ0_isLatin1_aae02_3 rfl hf (fun hf => ?_) (fun hf => ?_)
  · exact (Option.some_ne_none _ hf.symm).elim
  · refine j_aload_n hc dJ0_isLatin1_aae02_6 rfl ?_
    refine j_getC (v := .int 0) hc dJ0_isLatin1_aae02_7 kw_2137 cO1000012 ?_
    refine j_if_ne (tgt := 17) hc dJ0_isLatin1_aae02_10 rfl hf (fun hf => ?_) (fun hf => ?_)
    · exact (Option.some_ne_none _ hf.symm).elim
    · refine j_iconst (v := (1 : Int32)) hc dJ0_isLatin1_aae02_13 ci_1 ?_
      refine j_goto (tgt := 18) hc dJ0_isLatin1_aae02_14 rfl ?_
      exact j_zret hc dJ0_isLatin1_aae02_18 rfl rfl (Or.inr rfl) hf

set_option maxRecDepth 100000 in
theorem qJ0_isLatin1_aae02_k12 (l : Launch) {al : Bool} (n d : Nat) (I : am_I) (L : am_L) (r : Int32) (I' : am_I) (L' : am_L) (hf : fJ0_isLatin1_aae02_k12 n d I L = some (r, I', L')) : am_C l yJ0_isLatin1_aae02 cJ0_isLatin1_aae02 1 (some .boolean) (d + 1) [.ref 1000012] (KC al) (RC al) I L (some (.int r)) I' L' := by
  exact am_intro (pfJ0_isLatin1_aae02) (fun _ _ => trivial) (Nat.le_of_ble_eq_true rfl) (fun x hl hc => by subst hl; exact j_sub (tJ0_isLatin1_aae02_k12 n d hc  _ _ hf) (And.intro rfl (trivial)))
set_option maxRecDepth 100000 in
def fJ0_coder_7d493_k12 (n d : Nat) (I : am_I) (L : am_L) : Option (Int32 × am_I × am_L) :=
  if (1 : Int32) = 0 then
    (none)
    else
    (some ((0 : Int32), I, L))

set_option maxRecDepth 100000 in
set_option maxHeartbeats 4000000 in
theorem tJ0_coder_7d493_k12 {x : am_X} {al : Bool} (n d : Nat) (hc : am_ok x cJ0_coder_7d493 yJ0_coder_7d493 1 (some .byte) (d + 1) 0 0) {r : Int32} {I' : am_I} {L' : am_L} (I : am_I) (L : am_L) (hf : fJ0_coder_7d493_k12 n d I L = some (r, I', L')) : am_J x (fun S => S = (some (.int r), (KC al), (RC al), I', L')) 0 [some (.ref 1000012)] [] (KC al) (RC al) I L 0 0 := by
  unfold fJ0_coder_7d493_k12 at hf
  refine j_getst (v := .int 1) hc dJ0_coder_7d493_0 kw_627 cZCOMPACT_STRINGS ?_
  refine j_if_eq (tgt := 13) hc dJ0_coder_7d493_3 rfl hf (fun hf => ?_) (fun hf => ?_)
  · exact (Option.some_ne_none _ hf.symm).elim
  · refine j_aload_n hc dJ0_coder_7d493_6 rfl ?_
    refine j_getC (v := .int 0) hc dJ0_coder_7d493_7 kw_2137 cO1000012 ?_
    refine j_goto (tgt := 14) hc dJ0_coder_7d493_10 rfl ?_
    exact j_nret hc dJ0_coder_7d493_14 rfl rfl rfl hf

set_option maxRecDepth 100000 in
theorem qJ0_coder_7d493_k12 (l : Launch) {al : Bool} (n d : Nat) (I : am_I) (L : am_L) (r : Int32) (I' : am_I) (L' : am_L) (hf : fJ0_coder_7d493_k12 n d I L = some (r, I', L')) : am_C l yJ0_coder_7d493 cJ0_coder_7d493 1 (some .byte) (d + 1) [.ref 1000012] (KC al) (RC al) I L (some (.int r)) I' L' := by
  exact am_intro (pfJ0_coder_7d493) (fun _ _ => trivial) (Nat.le_of_ble_eq_true rfl) (fun x hl hc => by subst hl; exact j_sub (tJ0_coder_7d493_k12 n d hc  _ _ hf) (And.intro rfl (trivial)))
set_option maxRecDepth 100000 in
def fJ0_length_8abf5_k12 (n d : Nat) (I : am_I) (L : am_L) : Option (Int32 × am_I × am_L) :=
  am_b3 (fJ0_coder_7d493_k12 n d I L) (fun v1 I1 L1 => some (((6 : Int32) >>> (v1 &&& 31)), I1, L1))

set_option maxRecDepth 100000 in
set_option maxHeartbeats 4000000 in
theorem tJ0_length_8abf5_k12 {x : am_X} {al : Bool} (n d : Nat) (hc : am_ok x cJ0_length_8abf5 yJ0_length_8abf5 1 (some .int) (d + 2) 0 0) {r : Int32} {I' : am_I} {L' : am_L} (I : am_I) (L : am_L) (hf : fJ0_length_8abf5_k12 n d I L = some (r, I', L')) : am_J x (fun S => S = (some (.int r), (KC al), (RC al), I', L')) 0 [some (.ref 1000012)] [] (KC al) (RC al) I L 0 0 := by
  unfold fJ0_length_8abf5_k12 at hf
  refine j_aload_n hc dJ0_length_8abf5_0 rfl ?_
  refine j_getC (v := .ref 1000013) hc dJ0_length_8abf5_1 kw_2138 cV1000012 ?_
  refine j_alenC (v := (6 : Int32)) hc dJ0_length_8abf5_4 cB1 cn_6 ?_
  refine j_aload_n hc dJ0_length_8abf5_5 rfl ?_
  refine j_callKI (t := 1000012) (As := []) hc dJ0_length_8abf5_6 kw_633 mJ0_coder_7d493 cQ1000012 rfl (by omega) (Nat.le_of_ble_eq_true rfl) (Nat.le_of_ble_eq_true rfl) ⟨Nat.le_refl _, Nat.le_refl _⟩ hf (fun v I' L' h => qJ0_coder_7d493_k12 x.2.1 n d I L v I' L' h) (fun v1 I1 L1 hf => ?_)
  refine j_ishr hc dJ0_length_8abf5_9 ?_
  exact j_ireturn hc dJ0_length_8abf5_10 rfl rfl hf

set_option maxRecDepth 100000 in
theorem qJ0_length_8abf5_k12 (l : Launch) {al : Bool} (n d : Nat) (I : am_I) (L : am_L) (r : Int32) (I' : am_I) (L' : am_L) (hf : fJ0_length_8abf5_k12 n d I L = some (r, I', L')) : am_C l yJ0_length_8abf5 cJ0_length_8abf5 1 (some .int) (d + 2) [.ref 1000012] (KC al) (RC al) I L (some (.int r)) I' L' := by
  exact am_intro (pfJ0_length_8abf5) (fun _ _ => trivial) (Nat.le_of_ble_eq_true rfl) (fun x hl hc => by subst hl; exact j_sub (tJ0_length_8abf5_k12 n d hc  _ _ hf) (And.intro rfl (trivial)))
set_option maxRecDepth 100000 in
def fJ1_indexOfChar_4cfef_k13_b7w (n d : Nat) (k7 : Int32 → Int32 → Int32 → am_I → am_L → Option (Int32 × am_I × am_L)) (a3 : Int32) (a4 : Int32) (a5 : Int32) (I : am_I) (L : am_L) : Option (Int32 × am_I × am_L) :=
  if a3 ≤ a5 then
    (some ((-1 : Int32), I, L))
    else
    (am_ck a5 6 (am_lt ((fun j => (am_by.getD 1 []).getD j 0) (a5).toNatClampNeg) (fun v1 => if v1 = a4 then
      (some (a5, I, L))
      else
      (am_lt (a5 + (1 : Int32)) (fun v2 => k7 a3 a4 v2 I L)))))

set_option maxRecDepth 100000 in
set_option maxHeartbeats 4000000 in
theorem tJ1_indexOfChar_4cfef_k13_b7w {x : am_X} {al : Bool} (n d : Nat) (hc : am_ok x cJ1_indexOfChar_4cfef yJ1_indexOfChar_4cfef 6 (some .int) (d + 1) 0 0) {r : Int32} {I' : am_I} {L' : am_L} (k7 : Int32 → Int32 → Int32 → am_I → am_L → Option (Int32 × am_I × am_L)) (hk7 : ∀ (a3 : Int32) (a4 : Int32) (a5 : Int32) (I : am_I) (L : am_L), k7 a3 a4 a5 I L = some (r, I', L') → am_J x (fun S => S = (some (.int r), (KC al), (RC al), I', L')) 7 [some (.ref 1000013), none, none, some (.int a3), some (.int a4), some (.int a5)] [] (KC al) (RC al) I L 0 0) (a3 : Int32) (a4 : Int32) (a5 : Int32) (I : am_I) (L : am_L) (hf : fJ1_indexOfChar_4cfef_k13_b7w n d k7 a3 a4 a5 I L = some (r, I', L')) : am_J x (fun S => S = (some (.int r), (KC al), (RC al), I', L')) 7 [some (.ref 1000013), none, none, some (.int a3), some (.int a4), some (.int a5)] [] (KC al) (RC al) I L 0 0 := by
  unfold fJ1_indexOfChar_4cfef_k13_b7w at hf
  refine j_iload hc dJ1_indexOfChar_4cfef_7 rfl ?_
  refine j_iload_n hc dJ1_indexOfChar_4cfef_9 rfl ?_
  refine j_icmp_ge (tgt := 31) hc dJ1_indexOfChar_4cfef_10 rfl hf (fun hf => ?_) (fun hf => ?_)
  · refine j_iconst (v := (-1 : Int32)) hc dJ1_indexOfChar_4cfef_31 ci_m1 ?_
    exact j_ireturn hc dJ1_indexOfChar_4cfef_32 rfl rfl hf
  · refine j_aload_n hc dJ1_indexOfChar_4cfef_13 rfl ?_
    refine j_iload hc dJ1_indexOfChar_4cfef_14 rfl ?_
    refine j_baldC (t := 1000013) (n := 6) (f := (fun j => (am_by.getD 1 []).getD j 0)) hc dJ1_indexOfChar_4cfef_16 cB1 hf (fun v1 hf => ?_)
    refine j_iload hc dJ1_indexOfChar_4cfef_17 rfl ?_
    refine j_icmp_ne (tgt := 25) hc dJ1_indexOfChar_4cfef_19 rfl hf (fun hf => ?_) (fun hf => ?_)
    · refine j_iinc (w := (1 : Int32)) hc dJ1_indexOfChar_4cfef_25 rfl ci_1 (Nat.le_of_ble_eq_true rfl) hf (fun v2 hf => ?_)
      refine j_goto (tgt := 7) hc dJ1_indexOfChar_4cfef_28 rfl ?_
      exact j_sub (hk7 _ _ _ _ _ hf) (And.intro rfl (And.intro rfl (And.intro rfl (And.intro rfl (trivial)))))
    · refine j_iload hc dJ1_indexOfChar_4cfef_22 rfl ?_
      exact j_ireturn hc dJ1_indexOfChar_4cfef_24 rfl rfl hf

def fJ1_indexOfChar_4cfef_k13_b7 (n d : Nat) : Nat → Int32 → Int32 → Int32 → am_I → am_L → Option (Int32 × am_I × am_L)
  | 0 => fun _ _ _ _ _ => none
  | m + 1 => fJ1_indexOfChar_4cfef_k13_b7w n d  (fJ1_indexOfChar_4cfef_k13_b7 n d m)

set_option maxRecDepth 100000 in
theorem tJ1_indexOfChar_4cfef_k13_b7 {x : am_X} {al : Bool} (n d : Nat) (hc : am_ok x cJ1_indexOfChar_4cfef yJ1_indexOfChar_4cfef 6 (some .int) (d + 1) 0 0) {r : Int32} {I' : am_I} {L' : am_L} (m : Nat) : ∀ (a3 : Int32) (a4 : Int32) (a5 : Int32) (I : am_I) (L : am_L) (hf : fJ1_indexOfChar_4cfef_k13_b7 n d m a3 a4 a5 I L = some (r, I', L')), am_J x (fun S => S = (some (.int r), (KC al), (RC al), I', L')) 7 [some (.ref 1000013), none, none, some (.int a3), some (.int a4), some (.int a5)] [] (KC al) (RC al) I L 0 0 := by
  induction m with
  | zero => intro a3 a4 a5 I L hf; exact (Option.some_ne_none _ hf.symm).elim
  | succ m ih => intro a3 a4 a5 I L hf; exact tJ1_indexOfChar_4cfef_k13_b7w n d hc (fJ1_indexOfChar_4cfef_k13_b7 n d m) ih a3 a4 a5 I L hf

set_option maxRecDepth 100000 in
def fJ1_indexOfChar_4cfef_k13 (n d : Nat) (a1 : Int32) (a2 : Int32) (a3 : Int32) (I : am_I) (L : am_L) : Option (Int32 × am_I × am_L) :=
  am_lt a1.toInt8.toInt32 (fun v1 => am_lt a2 (fun v2 => fJ1_indexOfChar_4cfef_k13_b7 n d n a3 v1 v2 I L))

set_option maxRecDepth 100000 in
set_option maxHeartbeats 4000000 in
theorem tJ1_indexOfChar_4cfef_k13 {x : am_X} {al : Bool} (n d : Nat) (hc : am_ok x cJ1_indexOfChar_4cfef yJ1_indexOfChar_4cfef 6 (some .int) (d + 1) 0 0) {r : Int32} {I' : am_I} {L' : am_L} (a1 : Int32) (a2 : Int32) (a3 : Int32) (I : am_I) (L : am_L) (hf : fJ1_indexOfChar_4cfef_k13 n d a1 a2 a3 I L = some (r, I', L')) : am_J x (fun S => S = (some (.int r), (KC al), (RC al), I', L')) 0 [some (.ref 1000013), some (.int a1), some (.int a2), some (.int a3), none, none] [] (KC al) (RC al) I L 0 0 := by
  unfold fJ1_indexOfChar_4cfef_k13 at hf
  refine j_iload_n hc dJ1_indexOfChar_4cfef_0 rfl ?_
  refine j_i2b hc dJ1_indexOfChar_4cfef_1 ?_
  refine j_istore hc dJ1_indexOfChar_4cfef_2 (Nat.le_of_ble_eq_true rfl) hf (fun v1 hf => ?_)
  refine j_iload_n hc dJ1_indexOfChar_4cfef_4 rfl ?_
  refine j_istore hc dJ1_indexOfChar_4cfef_5 (Nat.le_of_ble_eq_true rfl) hf (fun v2 hf => ?_)
  exact j_sub (tJ1_indexOfChar_4cfef_k13_b7 n d hc n _ _ _ _ _ hf) (And.intro rfl (And.intro rfl (And.intro rfl (And.intro rfl (trivial)))))

set_option maxRecDepth 100000 in
theorem qJ1_indexOfChar_4cfef_k13 (l : Launch) {al : Bool} (n d : Nat) (a1 : Int32) (a2 : Int32) (a3 : Int32) (I : am_I) (L : am_L) (r : Int32) (I' : am_I) (L' : am_L) (hf : fJ1_indexOfChar_4cfef_k13 n d a1 a2 a3 I L = some (r, I', L')) : am_C l yJ1_indexOfChar_4cfef cJ1_indexOfChar_4cfef 6 (some .int) (d + 1) [.ref 1000013, .int a1, .int a2, .int a3] (KC al) (RC al) I L (some (.int r)) I' L' := by
  exact am_intro (pfJ1_indexOfChar_4cfef) (fun _ _ => trivial) (Nat.le_of_ble_eq_true rfl) (fun x hl hc => by subst hl; exact j_sub (tJ1_indexOfChar_4cfef_k13 n d hc _ _ _ _ _ hf) (And.intro rfl (And.intro rfl (And.intro rfl (And.intro rfl (trivial))))))
set_option maxRecDepth 100000 in
def fJ1_indexOf_4cfef_k13 (n d : Nat) (a1 : Int32) (a2 : Int32) (a3 : Int32) (I : am_I) (L : am_L) : Option (Int32 × am_I × am_L) :=
  am_b3 (fJ1_canEncode_9a6ad n d a1 I L) (fun v1 I1 L1 => if v1 = 0 then
    (some ((-1 : Int32), I1, L1))
    else
    (am_b3 (fJ9_max_7cf53 n d a2 (0 : Int32) I1 L1) (fun v2 I2 L2 => am_lt v2 (fun v3 => am_b3 (fJ9_min_7cf53 n d a3 (6 : Int32) I2 L2) (fun v4 I4 L4 => am_lt v4 (fun v5 => if v3 < v5 then
      (am_b3 (fJ1_indexOfChar_4cfef_k13 n d a1 v3 v5 I4 L4) (fun v6 I6 L6 => some (v6, I6, L6)))
      else
      (some ((-1 : Int32), I4, L4))))))))

set_option maxRecDepth 100000 in
set_option maxHeartbeats 4000000 in
theorem tJ1_indexOf_4cfef_k13 {x : am_X} {al : Bool} (n d : Nat) (hc : am_ok x cJ1_indexOf_4cfef yJ1_indexOf_4cfef 4 (some .int) (d + 2) 0 0) {r : Int32} {I' : am_I} {L' : am_L} (a1 : Int32) (a2 : Int32) (a3 : Int32) (I : am_I) (L : am_L) (hf : fJ1_indexOf_4cfef_k13 n d a1 a2 a3 I L = some (r, I', L')) : am_J x (fun S => S = (some (.int r), (KC al), (RC al), I', L')) 0 [some (.ref 1000013), some (.int a1), some (.int a2), some (.int a3)] [] (KC al) (RC al) I L 0 0 := by
  unfold fJ1_indexOf_4cfef_k13 at hf
  refine j_iload_n hc dJ1_indexOf_4cfef_0 rfl ?_
  refine j_callSI (As := [.int a1]) hc dJ1_indexOf_4cfef_1 kw_640 mJ1_canEncode_9a6ad  rfl (by omega) (Nat.le_of_ble_eq_true rfl) (Nat.le_of_ble_eq_true rfl) ⟨Nat.le_refl _, Nat.le_refl _⟩ hf (fun v I' L' h => qJ1_canEncode_9a6ad x.2.1 n d a1 I L v I' L' h) (fun v1 I1 L1 hf => ?_)
  refine j_if_ne (tgt := 9) hc dJ1_indexOf_4cfef_4 rfl hf (fun hf => ?_) (fun hf => ?_)
  · refine j_iload_n hc dJ1_indexOf_4cfef_9 rfl ?_
    refine j_iconst (v := (0 : Int32)) hc dJ1_indexOf_4cfef_10 ci_0 ?_
    refine j_callSI (As := [.int a2, .int (0 : Int32)]) hc dJ1_indexOf_4cfef_11 kw_643 mJ9_max_7cf53  rfl (by omega) (Nat.le_of_ble_eq_true rfl) (Nat.le_of_ble_eq_true rfl) ⟨Nat.le_refl _, Nat.le_refl _⟩ hf (fun v I' L' h => qJ9_max_7cf53 x.2.1 n d a2 (0 : Int32) I1 L1 v I' L' h) (fun v2 I2 L2 hf => ?_)
    refine j_istore_n hc dJ1_indexOf_4cfef_14 (Nat.le_of_ble_eq_true rfl) hf (fun v3 hf => ?_)
    refine j_iload_n hc dJ1_indexOf_4cfef_15 rfl ?_
    refine j_aload_n hc dJ1_indexOf_4cfef_16 rfl ?_
    refine j_alenC (v := (6 : Int32)) hc dJ1_indexOf_4cfef_17 cB1 cn_6 ?_
    refine j_callSI (As := [.int a3, .int (6 : Int32)]) hc dJ1_indexOf_4cfef_18 kw_646 mJ9_min_7cf53  rfl (by omega) (Nat.le_of_ble_eq_true rfl) (Nat.le_of_ble_eq_true rfl) ⟨Nat.le_refl _, Nat.le_refl _⟩ hf (fun v I' L' h => qJ9_min_7cf53 x.2.1 n d a3 (6 : Int32) I2 L2 v I' L' h) (fun v4 I4 L4 hf => ?_)
    refine j_istore_n hc dJ1_indexOf_4cfef_21 (Nat.le_of_ble_eq_true rfl) hf (fun v5 hf => ?_)
    refine j_iload_n hc dJ1_indexOf_4cfef_22 rfl ?_
    refine j_iload_n hc dJ1_indexOf_4cfef_23 rfl ?_
    refine j_icmp_lt (tgt := 29) hc dJ1_indexOf_4cfef_24 rfl hf (fun hf => ?_) (fun hf => ?_)
    · refine j_aload_n hc dJ1_indexOf_4cfef_29 rfl ?_
      refine j_iload_n hc dJ1_indexOf_4cfef_30 rfl ?_
      refine j_iload_n hc dJ1_indexOf_4cfef_31 rfl ?_
      refine j_iload_n hc dJ1_indexOf_4cfef_32 rfl ?_
      refine j_callSI (As := [.ref 1000013, .int a1, .int v3, .int v5]) hc dJ1_indexOf_4cfef_33 kw_649 mJ1_indexOfChar_4cfef  rfl (by omega) (Nat.le_of_ble_eq_true rfl) (Nat.le_of_ble_eq_true rfl) ⟨Nat.le_refl _, Nat.le_refl _⟩ hf (fun v I' L' h => qJ1_indexOfChar_4cfef_k13 x.2.1 n d a1 v3 v5 I4 L4 v I' L' h) (fun v6 I6 L6 hf => ?_)
      exact j_ireturn hc dJ1_indexOf_4cfef_36 rfl rfl hf
    · refine j_iconst (v := (-1 : Int32)) hc dJ1_indexOf_4cfef_27 ci_m1 ?_
      exact j_ireturn hc dJ1_indexOf_4cfef_28 rfl rfl hf
  · refine j_iconst (v := (-1 : Int32)) hc dJ1_indexOf_4cfef_7 ci_m1 ?_
    exact j_ireturn hc dJ1_indexOf_4cfef_8 rfl rfl hf

set_option maxRecDepth 100000 in
theorem qJ1_indexOf_4cfef_k13 (l : Launch) {al : Bool} (n d : Nat) (a1 : Int32) (a2 : Int32) (a3 : Int32) (I : am_I) (L : am_L) (r : Int32) (I' : am_I) (L' : am_L) (hf : fJ1_indexOf_4cfef_k13 n d a1 a2 a3 I L = some (r, I', L')) : am_C l yJ1_indexOf_4cfef cJ1_indexOf_4cfef 4 (some .int) (d + 2) [.ref 1000013, .int a1, .int a2, .int a3] (KC al) (RC al) I L (some (.int r)) I' L' := by
  exact am_intro (pfJ1_indexOf_4cfef) (fun _ _ => trivial) (Nat.le_of_ble_eq_true rfl) (fun x hl hc => by subst hl; exact j_sub (tJ1_indexOf_4cfef_k13 n d hc _ _ _ _ _ hf) (And.intro rfl (And.intro rfl (And.intro rfl (And.intro rfl (trivial))))))
set_option maxRecDepth 100000 in
def fJ0_indexOf_7cf53_k12 (n d : Nat) (a1 : Int32) (a2 : Int32) (I : am_I) (L : am_L) : Option (Int32 × am_I × am_L) :=
  am_b3 (fJ0_isLatin1_aae02_k12 n d I L) (fun v1 I1 L1 => if v1 = 0 then
    (none)
    else
    (am_b3 (fJ0_length_8abf5_k12 n d I1 L1) (fun v2 I2 L2 => am_b3 (fJ1_indexOf_4cfef_k13 n d a1 a2 v2 I2 L2) (fun v3 I3 L3 => some (v3, I3, L3)))))

set_option maxRecDepth 100000 in
set_option maxHeartbeats 4000000 in
theorem tJ0_indexOf_7cf53_k12 {x : am_X} {al : Bool} (n d : Nat) (hc : am_ok x cJ0_indexOf_7cf53 yJ0_indexOf_7cf53 3 (some .int) (d + 3) 0 0) {r : Int32} {I' : am_I} {L' : am_L} (a1 : Int32) (a2 : Int32) (I : am_I) (L : am_L) (hf : fJ0_indexOf_7cf53_k12 n d a1 a2 I L = some (r, I', L')) : am_J x (fun S => S = (some (.int r), (KC al), (RC al), I', L')) 0 [some (.ref 1000012), some (.int a1), some (.int a2)] [] (KC al) (RC al) I L 0 0 := by
  unfold fJ0_indexOf_7cf53_k12 at hf
  refine j_aload_n hc dJ0_indexOf_7cf53_0 rfl ?_
  refine j_callKI (t := 1000012) (As := []) hc dJ0_indexOf_7cf53_1 kw_623 mJ0_isLatin1_aae02 cQ1000012 rfl (by omega) (Nat.le_of_ble_eq_true rfl) (Nat.le_of_ble_eq_true rfl) ⟨Nat.le_refl _, Nat.le_refl _⟩ hf (fun v I' L' h => qJ0_isLatin1_aae02_k12 x.2.1 n d I L v I' L' h) (fun v1 I1 L1 hf => ?_)
  refine j_if_eq (tgt := 23) hc dJ0_indexOf_7cf53_4 rfl hf (fun hf => ?_) (fun hf => ?_)
  · exact (Option.some_ne_none _ hf.symm).elim
  · refine j_aload_n hc dJ0_indexOf_7cf53_7 rfl ?_
    refine j_getC (v := .ref 1000013) hc dJ0_indexOf_7cf53_8 kw_2138 cV1000012 ?_
    refine j_iload_n hc dJ0_indexOf_7cf53_11 rfl ?_
    refine j_iload_n hc dJ0_indexOf_7cf53_12 rfl ?_
    refine j_aload_n hc dJ0_indexOf_7cf53_13 rfl ?_
    refine j_callKI (t := 1000012) (As := []) hc dJ0_indexOf_7cf53_14 kw_629 mJ0_length_8abf5 cQ1000012 rfl (by omega) (Nat.le_of_ble_eq_true rfl) (Nat.le_of_ble_eq_true rfl) ⟨Nat.le_refl _, Nat.le_refl _⟩ hf (fun v I' L' h => qJ0_length_8abf5_k12 x.2.1 n d I1 L1 v I' L' h) (fun v2 I2 L2 hf => ?_)
    refine j_callSI (As := [.ref 1000013, .int a1, .int a2, .int v2]) hc dJ0_indexOf_7cf53_17 kw_637 mJ1_indexOf_4cfef  rfl (by omega) (Nat.le_of_ble_eq_true rfl) (Nat.le_of_ble_eq_true rfl) ⟨Nat.le_refl _, Nat.le_refl _⟩ hf (fun v I' L' h => qJ1_indexOf_4cfef_k13 x.2.1 n d a1 a2 v2 I2 L2 v I' L' h) (fun v3 I3 L3 hf => ?_)
    refine j_goto (tgt := 36) hc dJ0_indexOf_7cf53_20 rfl ?_
    exact j_ireturn hc dJ0_indexOf_7cf53_36 rfl rfl hf

set_option maxRecDepth 100000 in
theorem qJ0_indexOf_7cf53_k12 (l : Launch) {al : Bool} (n d : Nat) (a1 : Int32) (a2 : Int32) (I : am_I) (L : am_L) (r : Int32) (I' : am_I) (L' : am_L) (hf : fJ0_indexOf_7cf53_k12 n d a1 a2 I L = some (r, I', L')) : am_C l yJ0_indexOf_7cf53 cJ0_indexOf_7cf53 3 (some .int) (d + 3) [.ref 1000012, .int a1, .int a2] (KC al) (RC al) I L (some (.int r)) I' L' := by
  exact am_intro (pfJ0_indexOf_7cf53) (fun _ _ => trivial) (Nat.le_of_ble_eq_true rfl) (fun x hl hc => by subst hl; exact j_sub (tJ0_indexOf_7cf53_k12 n d hc _ _ _ _ hf) (And.intro rfl (And.intro rfl (And.intro rfl (trivial)))))
set_option maxRecDepth 100000 in
def fJ0_indexOf_0f7a4_k12 (n d : Nat) (a1 : Int32) (I : am_I) (L : am_L) : Option (Int32 × am_I × am_L) :=
  am_b3 (fJ0_indexOf_7cf53_k12 n d a1 (0 : Int32) I L) (fun v1 I1 L1 => some (v1, I1, L1))

set_option maxRecDepth 100000 in
set_option maxHeartbeats 4000000 in
theorem tJ0_indexOf_0f7a4_k12 {x : am_X} {al : Bool} (n d : Nat) (hc : am_ok x cJ0_indexOf_0f7a4 yJ0_indexOf_0f7a4 2 (some .int) (d + 4) 0 0) {r : Int32} {I' : am_I} {L' : am_L} (a1 : Int32) (I : am_I) (L : am_L) (hf : fJ0_indexOf_0f7a4_k12 n d a1 I L = some (r, I', L')) : am_J x (fun S => S = (some (.int r), (KC al), (RC al), I', L')) 0 [some (.ref 1000012), some (.int a1)] [] (KC al) (RC al) I L 0 0 := by
  unfold fJ0_indexOf_0f7a4_k12 at hf
  refine j_aload_n hc dJ0_indexOf_0f7a4_0 rfl ?_
  refine j_iload_n hc dJ0_indexOf_0f7a4_1 rfl ?_
  refine j_iconst (v := (0 : Int32)) hc dJ0_indexOf_0f7a4_2 ci_0 ?_
  refine j_callKI (t := 1000012) (As := [.int a1, .int (0 : Int32)]) hc dJ0_indexOf_0f7a4_3 kw_619 mJ0_indexOf_7cf53 cQ1000012 rfl (by omega) (Nat.le_of_ble_eq_true rfl) (Nat.le_of_ble_eq_true rfl) ⟨Nat.le_refl _, Nat.le_refl _⟩ hf (fun v I' L' h => qJ0_indexOf_7cf53_k12 x.2.1 n d a1 (0 : Int32) I L v I' L' h) (fun v1 I1 L1 hf => ?_)
  exact j_ireturn hc dJ0_indexOf_0f7a4_6 rfl rfl hf

set_option maxRecDepth 100000 in
theorem qJ0_indexOf_0f7a4_k12 (l : Launch) {al : Bool} (n d : Nat) (a1 : Int32) (I : am_I) (L : am_L) (r : Int32) (I' : am_I) (L' : am_L) (hf : fJ0_indexOf_0f7a4_k12 n d a1 I L = some (r, I', L')) : am_C l yJ0_indexOf_0f7a4 cJ0_indexOf_0f7a4 2 (some .int) (d + 4) [.ref 1000012, .int a1] (KC al) (RC al) I L (some (.int r)) I' L' := by
  exact am_intro (pfJ0_indexOf_0f7a4) (fun _ _ => trivial) (Nat.le_of_ble_eq_true rfl) (fun x hl hc => by subst hl; exact j_sub (tJ0_indexOf_0f7a4_k12 n d hc _ _ _ hf) (And.intro rfl (And.intro rfl (trivial))))
set_option maxRecDepth 100000 in
def fX2_readSum_b73 (n d : Nat) (g : Nat → Int32 → Int32 → Int32 → Int32 → Int32 → am_I → am_L → Option (Int32 × am_I × am_L)) (k12 : Int32 → Int32 → am_I → am_L → Option (Int32 × am_I × am_L)) (s1 : Int32) (a1 : Int32) (a2 : Int32) (I : am_I) (L : am_L) : Option (Int32 × am_I × am_L) :=
  am_b2 (fX2_put n d s1 I L) (fun I1 L1 => am_lt (a2 + (1 : Int32)) (fun v2 => k12 a1 v2 I1 L1))

set_option maxRecDepth 100000 in
set_option maxHeartbeats 4000000 in
theorem tX2_readSum_b73 {x : am_X} {al : Bool} (n d : Nat) (g : Nat → Int32 → Int32 → Int32 → Int32 → Int32 → am_I → am_L → Option (Int32 × am_I × am_L)) (hg : ∀ (w : Nat) (e1 e2 e3 e4 e5 : Int32) (I : am_I) (L : am_L) (v : Int32) (I' : am_I) (L' : am_L), g w e1 e2 e3 e4 e5 I L = some (v, I', L') → (w = 0 → am_C x.2.1 yX2_readSum cX2_readSum 4 (some .boolean) (d + 5) [.ref 27, .int e1] (KC al) (RC al) I L (some (.int v)) I' L') ∧ (w = 1 → am_C x.2.1 yX2_readTerm cX2_readTerm 4 (some .boolean) (d + 5) [.ref 27, .int e1] (KC al) (RC al) I L (some (.int v)) I' L') ∧ (w = 2 → am_C x.2.1 yX2_readAtom cX2_readAtom 4 (some .boolean) (d + 5) [.ref 27, .int e1] (KC al) (RC al) I L (some (.int v)) I' L')) (hc : am_ok x cX2_readSum yX2_readSum 4 (some .boolean) (d + 6) 0 0) {r : Int32} {I' : am_I} {L' : am_L} (k12 : Int32 → Int32 → am_I → am_L → Option (Int32 × am_I × am_L)) (hk12 : ∀ (a1 : Int32) (a2 : Int32) (I : am_I) (L : am_L), k12 a1 a2 I L = some (r, I', L') → am_J x (fun S => S = (some (.int r), (KC al), (RC al), I', L')) 12 [some (.ref 27), some (.int a1), some (.int a2), none] [] (KC al) (RC al) I L 0 0) (s1 : Int32) (a1 : Int32) (a2 : Int32) (I : am_I) (L : am_L) (hf : fX2_readSum_b73 n d g k12 s1 a1 a2 I L = some (r, I', L')) : am_J x (fun S => S = (some (.int r), (KC al), (RC al), I', L')) 73 [some (.ref 27), some (.int a1), some (.int a2), none] [.int s1, .ref 27] (KC al) (RC al) I L 0 0 := by
  unfold fX2_readSum_b73 at hf
  refine j_callVV (t := 27) (As := [.int s1]) hc dX2_readSum_73 kw_768 mX2_put (kC_27 _) clX2 rfl (by omega) (Nat.le_of_ble_eq_true rfl) (Nat.le_of_ble_eq_true rfl) ⟨Nat.le_refl _, Nat.le_refl _⟩ hf (fun I' L' h => qX2_put x.2.1 n d s1 I L I' L' h) (fun I1 L1 hf => ?_)
  refine j_iinc (w := (1 : Int32)) hc dX2_readSum_76 rfl ci_1 (Nat.le_of_ble_eq_true rfl) hf (fun v2 hf => ?_)
  refine j_goto (tgt := 12) hc dX2_readSum_79 rfl ?_
  exact j_sub (hk12 _ _ _ _ hf) (And.intro rfl (And.intro rfl (And.intro rfl (trivial))))

set_option maxRecDepth 100000 in
def fX2_readSum_b45 (n d : Nat) (g : Nat → Int32 → Int32 → Int32 → Int32 → Int32 → am_I → am_L → Option (Int32 × am_I × am_L)) (k12 : Int32 → Int32 → am_I → am_L → Option (Int32 × am_I × am_L)) (a1 : Int32) (a2 : Int32) (a3 : Int32) (I : am_I) (L : am_L) : Option (Int32 × am_I × am_L) :=
  am_b2 (fX2_goOn n d I L) (fun I1 L1 => am_b3 (g 1 a1 0 0 0 0 I1 L1) (fun v2 I2 L2 => if v2 = 0 then
    (some ((0 : Int32), I2, L2))
    else
    (if a3 = (43 : Int32) then
      (fX2_readSum_b73 n d g k12 (-11 : Int32) a1 a2 I2 L2)
      else
      (fX2_readSum_b73 n d g k12 (-12 : Int32) a1 a2 I2 L2))))

set_option maxRecDepth 100000 in
set_option maxHeartbeats 4000000 in
theorem tX2_readSum_b45 {x : am_X} {al : Bool} (n d : Nat) (g : Nat → Int32 → Int32 → Int32 → Int32 → Int32 → am_I → am_L → Option (Int32 × am_I × am_L)) (hg : ∀ (w : Nat) (e1 e2 e3 e4 e5 : Int32) (I : am_I) (L : am_L) (v : Int32) (I' : am_I) (L' : am_L), g w e1 e2 e3 e4 e5 I L = some (v, I', L') → (w = 0 → am_C x.2.1 yX2_readSum cX2_readSum 4 (some .boolean) (d + 5) [.ref 27, .int e1] (KC al) (RC al) I L (some (.int v)) I' L') ∧ (w = 1 → am_C x.2.1 yX2_readTerm cX2_readTerm 4 (some .boolean) (d + 5) [.ref 27, .int e1] (KC al) (RC al) I L (some (.int v)) I' L') ∧ (w = 2 → am_C x.2.1 yX2_readAtom cX2_readAtom 4 (some .boolean) (d + 5) [.ref 27, .int e1] (KC al) (RC al) I L (some (.int v)) I' L')) (hc : am_ok x cX2_readSum yX2_readSum 4 (some .boolean) (d + 6) 0 0) {r : Int32} {I' : am_I} {L' : am_L} (k12 : Int32 → Int32 → am_I → am_L → Option (Int32 × am_I × am_L)) (hk12 : ∀ (a1 : Int32) (a2 : Int32) (I : am_I) (L : am_L), k12 a1 a2 I L = some (r, I', L') → am_J x (fun S => S = (some (.int r), (KC al), (RC al), I', L')) 12 [some (.ref 27), some (.int a1), some (.int a2), none] [] (KC al) (RC al) I L 0 0) (a1 : Int32) (a2 : Int32) (a3 : Int32) (I : am_I) (L : am_L) (hf : fX2_readSum_b45 n d g k12 a1 a2 a3 I L = some (r, I', L')) : am_J x (fun S => S = (some (.int r), (KC al), (RC al), I', L')) 45 [some (.ref 27), some (.int a1), some (.int a2), some (.int a3)] [] (KC al) (RC al) I L 0 0 := by
  unfold fX2_readSum_b45 at hf
  refine j_aload_n hc dX2_readSum_45 rfl ?_
  refine j_callVV (t := 27) (As := []) hc dX2_readSum_46 kw_772 mX2_goOn (kC_27 _) clX2 rfl (by omega) (Nat.le_of_ble_eq_true rfl) (Nat.le_of_ble_eq_true rfl) ⟨Nat.le_refl _, Nat.le_refl _⟩ hf (fun I' L' h => qX2_goOn x.2.1 n d I L I' L' h) (fun I1 L1 hf => ?_)
  refine j_aload_n hc dX2_readSum_49 rfl ?_
  refine j_iload_n hc dX2_readSum_50 rfl ?_
  refine j_callVI (t := 27) (As := [.int a1]) hc dX2_readSum_51 kw_755 mX2_readTerm (kC_27 _) clX2 rfl (by omega) (Nat.le_of_ble_eq_true rfl) (Nat.le_of_ble_eq_true rfl) ⟨Nat.le_refl _, Nat.le_refl _⟩ hf (fun v I' L' h => (hg 1 _ _ _ _ _ _ _ _ _ _ h).2.1 rfl) (fun v2 I2 L2 hf => ?_)
  refine j_if_ne (tgt := 59) hc dX2_readSum_54 rfl hf (fun hf => ?_) (fun hf => ?_)
  · refine j_aload_n hc dX2_readSum_59 rfl ?_
    refine j_iload_n hc dX2_readSum_60 rfl ?_
    refine j_bipush (v := (43 : Int32)) hc dX2_readSum_61 cb_43 ?_
    refine j_icmp_ne (tgt := 71) hc dX2_readSum_63 rfl hf (fun hf => ?_) (fun hf => ?_)
    · refine j_bipush (v := (-12 : Int32)) hc dX2_readSum_71 cb_m12 ?_
      exact j_sub (tX2_readSum_b73 n d g hg hc k12 hk12 _ _ _ _ _ hf) (And.intro rfl (And.intro rfl (And.intro rfl (trivial))))
    · refine j_bipush (v := (-11 : Int32)) hc dX2_readSum_66 cb_m11 ?_
      refine j_goto (tgt := 73) hc dX2_readSum_68 rfl ?_
      exact j_sub (tX2_readSum_b73 n d g hg hc k12 hk12 _ _ _ _ _ hf) (And.intro rfl (And.intro rfl (And.intro rfl (trivial))))
  · refine j_iconst (v := (0 : Int32)) hc dX2_readSum_57 ci_0 ?_
    exact j_zret hc dX2_readSum_58 rfl rfl (Or.inl rfl) hf

set_option maxRecDepth 100000 in
def fX2_readSum_b12w (n d : Nat) (g : Nat → Int32 → Int32 → Int32 → Int32 → Int32 → am_I → am_L → Option (Int32 × am_I × am_L)) (k12 : Int32 → Int32 → am_I → am_L → Option (Int32 × am_I × am_L)) (a1 : Int32) (a2 : Int32) (I : am_I) (L : am_L) : Option (Int32 × am_I × am_L) :=
  if (240 : Int32) < a2 then
    (some ((1 : Int32), I, L))
    else
    (am_b3 (fX8_at n d (I 27 3) I L) (fun v1 I1 L1 => am_lt v1 (fun v2 => if v2 = (43 : Int32) then
      (fX2_readSum_b45 n d g k12 a1 a2 v2 I1 L1)
      else
      (if v2 = (45 : Int32) then
        (fX2_readSum_b45 n d g k12 a1 a2 v2 I1 L1)
        else
        (some ((1 : Int32), I1, L1))))))

set_option maxRecDepth 100000 in
set_option maxHeartbeats 4000000 in
theorem tX2_readSum_b12w {x : am_X} {al : Bool} (n d : Nat) (g : Nat → Int32 → Int32 → Int32 → Int32 → Int32 → am_I → am_L → Option (Int32 × am_I × am_L)) (hg : ∀ (w : Nat) (e1 e2 e3 e4 e5 : Int32) (I : am_I) (L : am_L) (v : Int32) (I' : am_I) (L' : am_L), g w e1 e2 e3 e4 e5 I L = some (v, I', L') → (w = 0 → am_C x.2.1 yX2_readSum cX2_readSum 4 (some .boolean) (d + 5) [.ref 27, .int e1] (KC al) (RC al) I L (some (.int v)) I' L') ∧ (w = 1 → am_C x.2.1 yX2_readTerm cX2_readTerm 4 (some .boolean) (d + 5) [.ref 27, .int e1] (KC al) (RC al) I L (some (.int v)) I' L') ∧ (w = 2 → am_C x.2.1 yX2_readAtom cX2_readAtom 4 (some .boolean) (d + 5) [.ref 27, .int e1] (KC al) (RC al) I L (some (.int v)) I' L')) (hc : am_ok x cX2_readSum yX2_readSum 4 (some .boolean) (d + 6) 0 0) {r : Int32} {I' : am_I} {L' : am_L} (k12 : Int32 → Int32 → am_I → am_L → Option (Int32 × am_I × am_L)) (hk12 : ∀ (a1 : Int32) (a2 : Int32) (I : am_I) (L : am_L), k12 a1 a2 I L = some (r, I', L') → am_J x (fun S => S = (some (.int r), (KC al), (RC al), I', L')) 12 [some (.ref 27), some (.int a1), some (.int a2), none] [] (KC al) (RC al) I L 0 0) (a1 : Int32) (a2 : Int32) (I : am_I) (L : am_L) (hf : fX2_readSum_b12w n d g k12 a1 a2 I L = some (r, I', L')) : am_J x (fun S => S = (some (.int r), (KC al), (RC al), I', L')) 12 [some (.ref 27), some (.int a1), some (.int a2), none] [] (KC al) (RC al) I L 0 0 := by
  unfold fX2_readSum_b12w at hf
  refine j_iload_n hc dX2_readSum_12 rfl ?_
  refine j_sipush (v := (240 : Int32)) hc dX2_readSum_13 cs_240 ?_
  refine j_icmp_gt (tgt := 82) hc dX2_readSum_16 rfl hf (fun hf => ?_) (fun hf => ?_)
  · refine j_iconst (v := (1 : Int32)) hc dX2_readSum_82 ci_1 ?_
    exact j_zret hc dX2_readSum_83 rfl rfl (Or.inr rfl) hf
  · refine j_aload_n hc dX2_readSum_19 rfl ?_
    refine j_getR (u := 1) hc dX2_readSum_20 (fgC_X2_24_27 _) (rC_27_0 _) ?_
    refine j_aload_n hc dX2_readSum_23 rfl ?_
    refine j_getI hc dX2_readSum_24 (fgC_X2_21_27 _) ?_
    refine j_callVI (t := 1) (As := [.int (I 27 3)]) hc dX2_readSum_27 kw_742 mX8_at (kC_1 _) clX8 rfl (by omega) (Nat.le_of_ble_eq_true rfl) (Nat.le_of_ble_eq_true rfl) ⟨Nat.le_refl _, Nat.le_refl _⟩ hf (fun v I' L' h => qX8_at x.2.1 n d (I 27 3) I L v I' L' h) (fun v1 I1 L1 hf => ?_)
    refine j_istore_n hc dX2_readSum_30 (Nat.le_of_ble_eq_true rfl) hf (fun v2 hf => ?_)
    refine j_iload_n hc dX2_readSum_31 rfl ?_
    refine j_bipush (v := (43 : Int32)) hc dX2_readSum_32 cb_43 ?_
    refine j_icmp_eq (tgt := 45) hc dX2_readSum_34 rfl hf (fun hf => ?_) (fun hf => ?_)
    · exact j_sub (tX2_readSum_b45 n d g hg hc k12 hk12 _ _ _ _ _ hf) (And.intro rfl (And.intro rfl (And.intro rfl (And.intro rfl (trivial)))))
    · refine j_iload_n hc dX2_readSum_37 rfl ?_
      refine j_bipush (v := (45 : Int32)) hc dX2_readSum_38 cb_45 ?_
      refine j_icmp_eq (tgt := 45) hc dX2_readSum_40 rfl hf (fun hf => ?_) (fun hf => ?_)
      · exact j_sub (tX2_readSum_b45 n d g hg hc k12 hk12 _ _ _ _ _ hf) (And.intro rfl (And.intro rfl (And.intro rfl (And.intro rfl (trivial)))))
      · refine j_iconst (v := (1 : Int32)) hc dX2_readSum_43 ci_1 ?_
        exact j_zret hc dX2_readSum_44 rfl rfl (Or.inr rfl) hf

def fX2_readSum_b12 (n d : Nat) (g : Nat → Int32 → Int32 → Int32 → Int32 → Int32 → am_I → am_L → Option (Int32 × am_I × am_L)) : Nat → Int32 → Int32 → am_I → am_L → Option (Int32 × am_I × am_L)
  | 0 => fun _ _ _ _ => none
  | m + 1 => fX2_readSum_b12w n d g (fX2_readSum_b12 n d g m)

set_option maxRecDepth 100000 in
theorem tX2_readSum_b12 {x : am_X} {al : Bool} (n d : Nat) (g : Nat → Int32 → Int32 → Int32 → Int32 → Int32 → am_I → am_L → Option (Int32 × am_I × am_L)) (hg : ∀ (w : Nat) (e1 e2 e3 e4 e5 : Int32) (I : am_I) (L : am_L) (v : Int32) (I' : am_I) (L' : am_L), g w e1 e2 e3 e4 e5 I L = some (v, I', L') → (w = 0 → am_C x.2.1 yX2_readSum cX2_readSum 4 (some .boolean) (d + 5) [.ref 27, .int e1] (KC al) (RC al) I L (some (.int v)) I' L') ∧ (w = 1 → am_C x.2.1 yX2_readTerm cX2_readTerm 4 (some .boolean) (d + 5) [.ref 27, .int e1] (KC al) (RC al) I L (some (.int v)) I' L') ∧ (w = 2 → am_C x.2.1 yX2_readAtom cX2_readAtom 4 (some .boolean) (d + 5) [.ref 27, .int e1] (KC al) (RC al) I L (some (.int v)) I' L')) (hc : am_ok x cX2_readSum yX2_readSum 4 (some .boolean) (d + 6) 0 0) {r : Int32} {I' : am_I} {L' : am_L} (m : Nat) : ∀ (a1 : Int32) (a2 : Int32) (I : am_I) (L : am_L) (hf : fX2_readSum_b12 n d g m a1 a2 I L = some (r, I', L')), am_J x (fun S => S = (some (.int r), (KC al), (RC al), I', L')) 12 [some (.ref 27), some (.int a1), some (.int a2), none] [] (KC al) (RC al) I L 0 0 := by
  induction m with
  | zero => intro a1 a2 I L hf; exact (Option.some_ne_none _ hf.symm).elim
  | succ m ih => intro a1 a2 I L hf; exact tX2_readSum_b12w n d g hg hc (fX2_readSum_b12 n d g m) ih a1 a2 I L hf

set_option maxRecDepth 100000 in
def fX2_readSum_g (n d : Nat) (g : Nat → Int32 → Int32 → Int32 → Int32 → Int32 → am_I → am_L → Option (Int32 × am_I × am_L)) (a1 : Int32) (I : am_I) (L : am_L) : Option (Int32 × am_I × am_L) :=
  am_b3 (g 1 a1 0 0 0 0 I L) (fun v1 I1 L1 => if v1 = 0 then
    (some ((0 : Int32), I1, L1))
    else
    (am_lt (0 : Int32) (fun v2 => fX2_readSum_b12 n d g n a1 v2 I1 L1)))

set_option maxRecDepth 100000 in
set_option maxHeartbeats 4000000 in
theorem tX2_readSum_g {x : am_X} {al : Bool} (n d : Nat) (g : Nat → Int32 → Int32 → Int32 → Int32 → Int32 → am_I → am_L → Option (Int32 × am_I × am_L)) (hg : ∀ (w : Nat) (e1 e2 e3 e4 e5 : Int32) (I : am_I) (L : am_L) (v : Int32) (I' : am_I) (L' : am_L), g w e1 e2 e3 e4 e5 I L = some (v, I', L') → (w = 0 → am_C x.2.1 yX2_readSum cX2_readSum 4 (some .boolean) (d + 5) [.ref 27, .int e1] (KC al) (RC al) I L (some (.int v)) I' L') ∧ (w = 1 → am_C x.2.1 yX2_readTerm cX2_readTerm 4 (some .boolean) (d + 5) [.ref 27, .int e1] (KC al) (RC al) I L (some (.int v)) I' L') ∧ (w = 2 → am_C x.2.1 yX2_readAtom cX2_readAtom 4 (some .boolean) (d + 5) [.ref 27, .int e1] (KC al) (RC al) I L (some (.int v)) I' L')) (hc : am_ok x cX2_readSum yX2_readSum 4 (some .boolean) (d + 6) 0 0) {r : Int32} {I' : am_I} {L' : am_L} (a1 : Int32) (I : am_I) (L : am_L) (hf : fX2_readSum_g n d g a1 I L = some (r, I', L')) : am_J x (fun S => S = (some (.int r), (KC al), (RC al), I', L')) 0 [some (.ref 27), some (.int a1), none, none] [] (KC al) (RC al) I L 0 0 := by
  unfold fX2_readSum_g at hf
  refine j_aload_n hc dX2_readSum_0 rfl ?_
  refine j_iload_n hc dX2_readSum_1 rfl ?_
  refine j_callVI (t := 27) (As := [.int a1]) hc dX2_readSum_2 kw_755 mX2_readTerm (kC_27 _) clX2 rfl (by omega) (Nat.le_of_ble_eq_true rfl) (Nat.le_of_ble_eq_true rfl) ⟨Nat.le_refl _, Nat.le_refl _⟩ hf (fun v I' L' h => (hg 1 _ _ _ _ _ _ _ _ _ _ h).2.1 rfl) (fun v1 I1 L1 hf => ?_)
  refine j_if_ne (tgt := 10) hc dX2_readSum_5 rfl hf (fun hf => ?_) (fun hf => ?_)
  · refine j_iconst (v := (0 : Int32)) hc dX2_readSum_10 ci_0 ?_
    refine j_istore_n hc dX2_readSum_11 (Nat.le_of_ble_eq_true rfl) hf (fun v2 hf => ?_)
    exact j_sub (tX2_readSum_b12 n d g hg hc n _ _ _ _ hf) (And.intro rfl (And.intro rfl (And.intro rfl (trivial))))
  · refine j_iconst (v := (0 : Int32)) hc dX2_readSum_8 ci_0 ?_
    exact j_zret hc dX2_readSum_9 rfl rfl (Or.inl rfl) hf

set_option maxRecDepth 100000 in
def fX2_readTerm_b73 (n d : Nat) (g : Nat → Int32 → Int32 → Int32 → Int32 → Int32 → am_I → am_L → Option (Int32 × am_I × am_L)) (k12 : Int32 → Int32 → am_I → am_L → Option (Int32 × am_I × am_L)) (s1 : Int32) (a1 : Int32) (a2 : Int32) (I : am_I) (L : am_L) : Option (Int32 × am_I × am_L) :=
  am_b2 (fX2_put n d s1 I L) (fun I1 L1 => am_lt (a2 + (1 : Int32)) (fun v2 => k12 a1 v2 I1 L1))

set_option maxRecDepth 100000 in
set_option maxHeartbeats 4000000 in
theorem tX2_readTerm_b73 {x : am_X} {al : Bool} (n d : Nat) (g : Nat → Int32 → Int32 → Int32 → Int32 → Int32 → am_I → am_L → Option (Int32 × am_I × am_L)) (hg : ∀ (w : Nat) (e1 e2 e3 e4 e5 : Int32) (I : am_I) (L : am_L) (v : Int32) (I' : am_I) (L' : am_L), g w e1 e2 e3 e4 e5 I L = some (v, I', L') → (w = 0 → am_C x.2.1 yX2_readSum cX2_readSum 4 (some .boolean) (d + 5) [.ref 27, .int e1] (KC al) (RC al) I L (some (.int v)) I' L') ∧ (w = 1 → am_C x.2.1 yX2_readTerm cX2_readTerm 4 (some .boolean) (d + 5) [.ref 27, .int e1] (KC al) (RC al) I L (some (.int v)) I' L') ∧ (w = 2 → am_C x.2.1 yX2_readAtom cX2_readAtom 4 (some .boolean) (d + 5) [.ref 27, .int e1] (KC al) (RC al) I L (some (.int v)) I' L')) (hc : am_ok x cX2_readTerm yX2_readTerm 4 (some .boolean) (d + 6) 0 0) {r : Int32} {I' : am_I} {L' : am_L} (k12 : Int32 → Int32 → am_I → am_L → Option (Int32 × am_I × am_L)) (hk12 : ∀ (a1 : Int32) (a2 : Int32) (I : am_I) (L : am_L), k12 a1 a2 I L = some (r, I', L') → am_J x (fun S => S = (some (.int r), (KC al), (RC al), I', L')) 12 [some (.ref 27), some (.int a1), some (.int a2), none] [] (KC al) (RC al) I L 0 0) (s1 : Int32) (a1 : Int32) (a2 : Int32) (I : am_I) (L : am_L) (hf : fX2_readTerm_b73 n d g k12 s1 a1 a2 I L = some (r, I', L')) : am_J x (fun S => S = (some (.int r), (KC al), (RC al), I', L')) 73 [some (.ref 27), some (.int a1), some (.int a2), none] [.int s1, .ref 27] (KC al) (RC al) I L 0 0 := by
  unfold fX2_readTerm_b73 at hf
  refine j_callVV (t := 27) (As := [.int s1]) hc dX2_readTerm_73 kw_768 mX2_put (kC_27 _) clX2 rfl (by omega) (Nat.le_of_ble_eq_true rfl) (Nat.le_of_ble_eq_true rfl) ⟨Nat.le_refl _, Nat.le_refl _⟩ hf (fun I' L' h => qX2_put x.2.1 n d s1 I L I' L' h) (fun I1 L1 hf => ?_)
  refine j_iinc (w := (1 : Int32)) hc dX2_readTerm_76 rfl ci_1 (Nat.le_of_ble_eq_true rfl) hf (fun v2 hf => ?_)
  refine j_goto (tgt := 12) hc dX2_readTerm_79 rfl ?_
  exact j_sub (hk12 _ _ _ _ hf) (And.intro rfl (And.intro rfl (And.intro rfl (trivial))))

set_option maxRecDepth 100000 in
def fX2_readTerm_b45 (n d : Nat) (g : Nat → Int32 → Int32 → Int32 → Int32 → Int32 → am_I → am_L → Option (Int32 × am_I × am_L)) (k12 : Int32 → Int32 → am_I → am_L → Option (Int32 × am_I × am_L)) (a1 : Int32) (a2 : Int32) (a3 : Int32) (I : am_I) (L : am_L) : Option (Int32 × am_I × am_L) :=
  am_b2 (fX2_goOn n d I L) (fun I1 L1 => am_b3 (g 2 a1 0 0 0 0 I1 L1) (fun v2 I2 L2 => if v2 = 0 then
    (some ((0 : Int32), I2, L2))
    else
    (if a3 = (42 : Int32) then
      (fX2_readTerm_b73 n d g k12 (-13 : Int32) a1 a2 I2 L2)
      else
      (fX2_readTerm_b73 n d g k12 (-14 : Int32) a1 a2 I2 L2))))

set_option maxRecDepth 100000 in
set_option maxHeartbeats 4000000 in
theorem tX2_readTerm_b45 {x : am_X} {al : Bool} (n d : Nat) (g : Nat → Int32 → Int32 → Int32 → Int32 → Int32 → am_I → am_L → Option (Int32 × am_I × am_L)) (hg : ∀ (w : Nat) (e1 e2 e3 e4 e5 : Int32) (I : am_I) (L : am_L) (v : Int32) (I' : am_I) (L' : am_L), g w e1 e2 e3 e4 e5 I L = some (v, I', L') → (w = 0 → am_C x.2.1 yX2_readSum cX2_readSum 4 (some .boolean) (d + 5) [.ref 27, .int e1] (KC al) (RC al) I L (some (.int v)) I' L') ∧ (w = 1 → am_C x.2.1 yX2_readTerm cX2_readTerm 4 (some .boolean) (d + 5) [.ref 27, .int e1] (KC al) (RC al) I L (some (.int v)) I' L') ∧ (w = 2 → am_C x.2.1 yX2_readAtom cX2_readAtom 4 (some .boolean) (d + 5) [.ref 27, .int e1] (KC al) (RC al) I L (some (.int v)) I' L')) (hc : am_ok x cX2_readTerm yX2_readTerm 4 (some .boolean) (d + 6) 0 0) {r : Int32} {I' : am_I} {L' : am_L} (k12 : Int32 → Int32 → am_I → am_L → Option (Int32 × am_I × am_L)) (hk12 : ∀ (a1 : Int32) (a2 : Int32) (I : am_I) (L : am_L), k12 a1 a2 I L = some (r, I', L') → am_J x (fun S => S = (some (.int r), (KC al), (RC al), I', L')) 12 [some (.ref 27), some (.int a1), some (.int a2), none] [] (KC al) (RC al) I L 0 0) (a1 : Int32) (a2 : Int32) (a3 : Int32) (I : am_I) (L : am_L) (hf : fX2_readTerm_b45 n d g k12 a1 a2 a3 I L = some (r, I', L')) : am_J x (fun S => S = (some (.int r), (KC al), (RC al), I', L')) 45 [some (.ref 27), some (.int a1), some (.int a2), some (.int a3)] [] (KC al) (RC al) I L 0 0 := by
  unfold fX2_readTerm_b45 at hf
  refine j_aload_n hc dX2_readTerm_45 rfl ?_
  refine j_callVV (t := 27) (As := []) hc dX2_readTerm_46 kw_772 mX2_goOn (kC_27 _) clX2 rfl (by omega) (Nat.le_of_ble_eq_true rfl) (Nat.le_of_ble_eq_true rfl) ⟨Nat.le_refl _, Nat.le_refl _⟩ hf (fun I' L' h => qX2_goOn x.2.1 n d I L I' L' h) (fun I1 L1 hf => ?_)
  refine j_aload_n hc dX2_readTerm_49 rfl ?_
  refine j_iload_n hc dX2_readTerm_50 rfl ?_
  refine j_callVI (t := 27) (As := [.int a1]) hc dX2_readTerm_51 kw_759 mX2_readAtom (kC_27 _) clX2 rfl (by omega) (Nat.le_of_ble_eq_true rfl) (Nat.le_of_ble_eq_true rfl) ⟨Nat.le_refl _, Nat.le_refl _⟩ hf (fun v I' L' h => (hg 2 _ _ _ _ _ _ _ _ _ _ h).2.2 rfl) (fun v2 I2 L2 hf => ?_)
  refine j_if_ne (tgt := 59) hc dX2_readTerm_54 rfl hf (fun hf => ?_) (fun hf => ?_)
  · refine j_aload_n hc dX2_readTerm_59 rfl ?_
    refine j_iload_n hc dX2_readTerm_60 rfl ?_
    refine j_bipush (v := (42 : Int32)) hc dX2_readTerm_61 cb_42 ?_
    refine j_icmp_ne (tgt := 71) hc dX2_readTerm_63 rfl hf (fun hf => ?_) (fun hf => ?_)
    · refine j_bipush (v := (-14 : Int32)) hc dX2_readTerm_71 cb_m14 ?_
      exact j_sub (tX2_readTerm_b73 n d g hg hc k12 hk12 _ _ _ _ _ hf) (And.intro rfl (And.intro rfl (And.intro rfl (trivial))))
    · refine j_bipush (v := (-13 : Int32)) hc dX2_readTerm_66 cb_m13 ?_
      refine j_goto (tgt := 73) hc dX2_readTerm_68 rfl ?_
      exact j_sub (tX2_readTerm_b73 n d g hg hc k12 hk12 _ _ _ _ _ hf) (And.intro rfl (And.intro rfl (And.intro rfl (trivial))))
  · refine j_iconst (v := (0 : Int32)) hc dX2_readTerm_57 ci_0 ?_
    exact j_zret hc dX2_readTerm_58 rfl rfl (Or.inl rfl) hf

set_option maxRecDepth 100000 in
def fX2_readTerm_b12w (n d : Nat) (g : Nat → Int32 → Int32 → Int32 → Int32 → Int32 → am_I → am_L → Option (Int32 × am_I × am_L)) (k12 : Int32 → Int32 → am_I → am_L → Option (Int32 × am_I × am_L)) (a1 : Int32) (a2 : Int32) (I : am_I) (L : am_L) : Option (Int32 × am_I × am_L) :=
  if (240 : Int32) < a2 then
    (some ((1 : Int32), I, L))
    else
    (am_b3 (fX8_at n d (I 27 3) I L) (fun v1 I1 L1 => am_lt v1 (fun v2 => if v2 = (42 : Int32) then
      (fX2_readTerm_b45 n d g k12 a1 a2 v2 I1 L1)
      else
      (if v2 = (47 : Int32) then
        (fX2_readTerm_b45 n d g k12 a1 a2 v2 I1 L1)
        else
        (some ((1 : Int32), I1, L1))))))

set_option maxRecDepth 100000 in
set_option maxHeartbeats 4000000 in
theorem tX2_readTerm_b12w {x : am_X} {al : Bool} (n d : Nat) (g : Nat → Int32 → Int32 → Int32 → Int32 → Int32 → am_I → am_L → Option (Int32 × am_I × am_L)) (hg : ∀ (w : Nat) (e1 e2 e3 e4 e5 : Int32) (I : am_I) (L : am_L) (v : Int32) (I' : am_I) (L' : am_L), g w e1 e2 e3 e4 e5 I L = some (v, I', L') → (w = 0 → am_C x.2.1 yX2_readSum cX2_readSum 4 (some .boolean) (d + 5) [.ref 27, .int e1] (KC al) (RC al) I L (some (.int v)) I' L') ∧ (w = 1 → am_C x.2.1 yX2_readTerm cX2_readTerm 4 (some .boolean) (d + 5) [.ref 27, .int e1] (KC al) (RC al) I L (some (.int v)) I' L') ∧ (w = 2 → am_C x.2.1 yX2_readAtom cX2_readAtom 4 (some .boolean) (d + 5) [.ref 27, .int e1] (KC al) (RC al) I L (some (.int v)) I' L')) (hc : am_ok x cX2_readTerm yX2_readTerm 4 (some .boolean) (d + 6) 0 0) {r : Int32} {I' : am_I} {L' : am_L} (k12 : Int32 → Int32 → am_I → am_L → Option (Int32 × am_I × am_L)) (hk12 : ∀ (a1 : Int32) (a2 : Int32) (I : am_I) (L : am_L), k12 a1 a2 I L = some (r, I', L') → am_J x (fun S => S = (some (.int r), (KC al), (RC al), I', L')) 12 [some (.ref 27), some (.int a1), some (.int a2), none] [] (KC al) (RC al) I L 0 0) (a1 : Int32) (a2 : Int32) (I : am_I) (L : am_L) (hf : fX2_readTerm_b12w n d g k12 a1 a2 I L = some (r, I', L')) : am_J x (fun S => S = (some (.int r), (KC al), (RC al), I', L')) 12 [some (.ref 27), some (.int a1), some (.int a2), none] [] (KC al) (RC al) I L 0 0 := by
  unfold fX2_readTerm_b12w at hf
  refine j_iload_n hc dX2_readTerm_12 rfl ?_
  refine j_sipush (v := (240 : Int32)) hc dX2_readTerm_13 cs_240 ?_
  refine j_icmp_gt (tgt := 82) hc dX2_readTerm_16 rfl hf (fun hf => ?_) (fun hf => ?_)
  · refine j_iconst (v := (1 : Int32)) hc dX2_readTerm_82 ci_1 ?_
    exact j_zret hc dX2_readTerm_83 rfl rfl (Or.inr rfl) hf
  · refine j_aload_n hc dX2_readTerm_19 rfl ?_
    refine j_getR (u := 1) hc dX2_readTerm_20 (fgC_X2_24_27 _) (rC_27_0 _) ?_
    refine j_aload_n hc dX2_readTerm_23 rfl ?_
    refine j_getI hc dX2_readTerm_24 (fgC_X2_21_27 _) ?_
    refine j_callVI (t := 1) (As := [.int (I 27 3)]) hc dX2_readTerm_27 kw_742 mX8_at (kC_1 _) clX8 rfl (by omega) (Nat.le_of_ble_eq_true rfl) (Nat.le_of_ble_eq_true rfl) ⟨Nat.le_refl _, Nat.le_refl _⟩ hf (fun v I' L' h => qX8_at x.2.1 n d (I 27 3) I L v I' L' h) (fun v1 I1 L1 hf => ?_)
    refine j_istore_n hc dX2_readTerm_30 (Nat.le_of_ble_eq_true rfl) hf (fun v2 hf => ?_)
    refine j_iload_n hc dX2_readTerm_31 rfl ?_
    refine j_bipush (v := (42 : Int32)) hc dX2_readTerm_32 cb_42 ?_
    refine j_icmp_eq (tgt := 45) hc dX2_readTerm_34 rfl hf (fun hf => ?_) (fun hf => ?_)
    · exact j_sub (tX2_readTerm_b45 n d g hg hc k12 hk12 _ _ _ _ _ hf) (And.intro rfl (And.intro rfl (And.intro rfl (And.intro rfl (trivial)))))
    · refine j_iload_n hc dX2_readTerm_37 rfl ?_
      refine j_bipush (v := (47 : Int32)) hc dX2_readTerm_38 cb_47 ?_
      refine j_icmp_eq (tgt := 45) hc dX2_readTerm_40 rfl hf (fun hf => ?_) (fun hf => ?_)
      · exact j_sub (tX2_readTerm_b45 n d g hg hc k12 hk12 _ _ _ _ _ hf) (And.intro rfl (And.intro rfl (And.intro rfl (And.intro rfl (trivial)))))
      · refine j_iconst (v := (1 : Int32)) hc dX2_readTerm_43 ci_1 ?_
        exact j_zret hc dX2_readTerm_44 rfl rfl (Or.inr rfl) hf

def fX2_readTerm_b12 (n d : Nat) (g : Nat → Int32 → Int32 → Int32 → Int32 → Int32 → am_I → am_L → Option (Int32 × am_I × am_L)) : Nat → Int32 → Int32 → am_I → am_L → Option (Int32 × am_I × am_L)
  | 0 => fun _ _ _ _ => none
  | m + 1 => fX2_readTerm_b12w n d g (fX2_readTerm_b12 n d g m)

set_option maxRecDepth 100000 in
theorem tX2_readTerm_b12 {x : am_X} {al : Bool} (n d : Nat) (g : Nat → Int32 → Int32 → Int32 → Int32 → Int32 → am_I → am_L → Option (Int32 × am_I × am_L)) (hg : ∀ (w : Nat) (e1 e2 e3 e4 e5 : Int32) (I : am_I) (L : am_L) (v : Int32) (I' : am_I) (L' : am_L), g w e1 e2 e3 e4 e5 I L = some (v, I', L') → (w = 0 → am_C x.2.1 yX2_readSum cX2_readSum 4 (some .boolean) (d + 5) [.ref 27, .int e1] (KC al) (RC al) I L (some (.int v)) I' L') ∧ (w = 1 → am_C x.2.1 yX2_readTerm cX2_readTerm 4 (some .boolean) (d + 5) [.ref 27, .int e1] (KC al) (RC al) I L (some (.int v)) I' L') ∧ (w = 2 → am_C x.2.1 yX2_readAtom cX2_readAtom 4 (some .boolean) (d + 5) [.ref 27, .int e1] (KC al) (RC al) I L (some (.int v)) I' L')) (hc : am_ok x cX2_readTerm yX2_readTerm 4 (some .boolean) (d + 6) 0 0) {r : Int32} {I' : am_I} {L' : am_L} (m : Nat) : ∀ (a1 : Int32) (a2 : Int32) (I : am_I) (L : am_L) (hf : fX2_readTerm_b12 n d g m a1 a2 I L = some (r, I', L')), am_J x (fun S => S = (some (.int r), (KC al), (RC al), I', L')) 12 [some (.ref 27), some (.int a1), some (.int a2), none] [] (KC al) (RC al) I L 0 0 := by
  induction m with
  | zero => intro a1 a2 I L hf; exact (Option.some_ne_none _ hf.symm).elim
  | succ m ih => intro a1 a2 I L hf; exact tX2_readTerm_b12w n d g hg hc (fX2_readTerm_b12 n d g m) ih a1 a2 I L hf

set_option maxRecDepth 100000 in
def fX2_readTerm_g (n d : Nat) (g : Nat → Int32 → Int32 → Int32 → Int32 → Int32 → am_I → am_L → Option (Int32 × am_I × am_L)) (a1 : Int32) (I : am_I) (L : am_L) : Option (Int32 × am_I × am_L) :=
  am_b3 (g 2 a1 0 0 0 0 I L) (fun v1 I1 L1 => if v1 = 0 then
    (some ((0 : Int32), I1, L1))
    else
    (am_lt (0 : Int32) (fun v2 => fX2_readTerm_b12 n d g n a1 v2 I1 L1)))

set_option maxRecDepth 100000 in
set_option maxHeartbeats 4000000 in
theorem tX2_readTerm_g {x : am_X} {al : Bool} (n d : Nat) (g : Nat → Int32 → Int32 → Int32 → Int32 → Int32 → am_I → am_L → Option (Int32 × am_I × am_L)) (hg : ∀ (w : Nat) (e1 e2 e3 e4 e5 : Int32) (I : am_I) (L : am_L) (v : Int32) (I' : am_I) (L' : am_L), g w e1 e2 e3 e4 e5 I L = some (v, I', L') → (w = 0 → am_C x.2.1 yX2_readSum cX2_readSum 4 (some .boolean) (d + 5) [.ref 27, .int e1] (KC al) (RC al) I L (some (.int v)) I' L') ∧ (w = 1 → am_C x.2.1 yX2_readTerm cX2_readTerm 4 (some .boolean) (d + 5) [.ref 27, .int e1] (KC al) (RC al) I L (some (.int v)) I' L') ∧ (w = 2 → am_C x.2.1 yX2_readAtom cX2_readAtom 4 (some .boolean) (d + 5) [.ref 27, .int e1] (KC al) (RC al) I L (some (.int v)) I' L')) (hc : am_ok x cX2_readTerm yX2_readTerm 4 (some .boolean) (d + 6) 0 0) {r : Int32} {I' : am_I} {L' : am_L} (a1 : Int32) (I : am_I) (L : am_L) (hf : fX2_readTerm_g n d g a1 I L = some (r, I', L')) : am_J x (fun S => S = (some (.int r), (KC al), (RC al), I', L')) 0 [some (.ref 27), some (.int a1), none, none] [] (KC al) (RC al) I L 0 0 := by
  unfold fX2_readTerm_g at hf
  refine j_aload_n hc dX2_readTerm_0 rfl ?_
  refine j_iload_n hc dX2_readTerm_1 rfl ?_
  refine j_callVI (t := 27) (As := [.int a1]) hc dX2_readTerm_2 kw_759 mX2_readAtom (kC_27 _) clX2 rfl (by omega) (Nat.le_of_ble_eq_true rfl) (Nat.le_of_ble_eq_true rfl) ⟨Nat.le_refl _, Nat.le_refl _⟩ hf (fun v I' L' h => (hg 2 _ _ _ _ _ _ _ _ _ _ h).2.2 rfl) (fun v1 I1 L1 hf => ?_)
  refine j_if_ne (tgt := 10) hc dX2_readTerm_5 rfl hf (fun hf => ?_) (fun hf => ?_)
  · refine j_iconst (v := (0 : Int32)) hc dX2_readTerm_10 ci_0 ?_
    refine j_istore_n hc dX2_readTerm_11 (Nat.le_of_ble_eq_true rfl) hf (fun v2 hf => ?_)
    exact j_sub (tX2_readTerm_b12 n d g hg hc n _ _ _ _ hf) (And.intro rfl (And.intro rfl (And.intro rfl (trivial))))
  · refine j_iconst (v := (0 : Int32)) hc dX2_readTerm_8 ci_0 ?_
    exact j_zret hc dX2_readTerm_9 rfl rfl (Or.inl rfl) hf

set_option maxRecDepth 100000 in
def fX2_readAtom_g (n d : Nat) (g : Nat → Int32 → Int32 → Int32 → Int32 → Int32 → am_I → am_L → Option (Int32 × am_I × am_L)) (a1 : Int32) (I : am_I) (L : am_L) : Option (Int32 × am_I × am_L) :=
  am_b3 (fX8_at n d (I 27 3) I L) (fun v1 I1 L1 => am_lt v1 (fun v2 => if v2 = (-1 : Int32) then
    (some ((0 : Int32), I1, L1))
    else
    (am_b3 (fX8_digitAt n d (I1 27 3) I1 L1) (fun v3 I3 L3 => if v3 = 0 then
      (if v2 = (91 : Int32) then
        (if a1 < (6 : Int32) then
          (am_b2 (fX2_goOn n d I3 L3) (fun I8 L8 => am_b3 (g 0 (a1 + (1 : Int32)) 0 0 0 0 I8 L8) (fun v9 I9 L9 => if v9 = 0 then
            (some ((0 : Int32), I9, L9))
            else
            (am_b3 (fX2_takes n d (93 : Int32) I9 L9) (fun v10 I10 L10 => if v10 = 0 then
              (some ((0 : Int32), I10, L10))
              else
              (some ((1 : Int32), I10, L10)))))))
          else
          (some ((0 : Int32), I3, L3)))
        else
        (am_b3 (fJ0_indexOf_0f7a4_k12 n d ((v2.toUInt32 % 65536).toInt32) I3 L3) (fun v4 I4 L4 => am_lt v4 (fun v5 => if (0 : Int32) ≤ v5 then
          (am_b2 (fX2_put n d ((-1 : Int32) - v5) I4 L4) (fun I6 L6 => am_b2 (fX2_goOn n d I6 L6) (fun I7 L7 => some ((1 : Int32), I7, L7))))
          else
          (some ((0 : Int32), I4, L4))))))
      else
      (am_b3 (fX2_readNumber n d I3 L3) (fun v11 I11 L11 => am_bl v11 (some (v11, I11, L11))))))))

set_option maxRecDepth 100000 in
set_option maxHeartbeats 4000000 in
theorem tX2_readAtom_g {x : am_X} {al : Bool} (n d : Nat) (g : Nat → Int32 → Int32 → Int32 → Int32 → Int32 → am_I → am_L → Option (Int32 × am_I × am_L)) (hg : ∀ (w : Nat) (e1 e2 e3 e4 e5 : Int32) (I : am_I) (L : am_L) (v : Int32) (I' : am_I) (L' : am_L), g w e1 e2 e3 e4 e5 I L = some (v, I', L') → (w = 0 → am_C x.2.1 yX2_readSum cX2_readSum 4 (some .boolean) (d + 5) [.ref 27, .int e1] (KC al) (RC al) I L (some (.int v)) I' L') ∧ (w = 1 → am_C x.2.1 yX2_readTerm cX2_readTerm 4 (some .boolean) (d + 5) [.ref 27, .int e1] (KC al) (RC al) I L (some (.int v)) I' L') ∧ (w = 2 → am_C x.2.1 yX2_readAtom cX2_readAtom 4 (some .boolean) (d + 5) [.ref 27, .int e1] (KC al) (RC al) I L (some (.int v)) I' L')) (hc : am_ok x cX2_readAtom yX2_readAtom 4 (some .boolean) (d + 6) 0 0) {r : Int32} {I' : am_I} {L' : am_L} (a1 : Int32) (I : am_I) (L : am_L) (hf : fX2_readAtom_g n d g a1 I L = some (r, I', L')) : am_J x (fun S => S = (some (.int r), (KC al), (RC al), I', L')) 0 [some (.ref 27), some (.int a1), none, none] [] (KC al) (RC al) I L 0 0 := by
  unfold fX2_readAtom_g at hf
  refine j_aload_n hc dX2_readAtom_0 rfl ?_
  refine j_getR (u := 1) hc dX2_readAtom_1 (fgC_X2_24_27 _) (rC_27_0 _) ?_
  refine j_aload_n hc dX2_readAtom_4 rfl ?_
  refine j_getI hc dX2_readAtom_5 (fgC_X2_21_27 _) ?_
  refine j_callVI (t := 1) (As := [.int (I 27 3)]) hc dX2_readAtom_8 kw_742 mX8_at (kC_1 _) clX8 rfl (by omega) (Nat.le_of_ble_eq_true rfl) (Nat.le_of_ble_eq_true rfl) ⟨Nat.le_refl _, Nat.le_refl _⟩ hf (fun v I' L' h => qX8_at x.2.1 n d (I 27 3) I L v I' L' h) (fun v1 I1 L1 hf => ?_)
  refine j_istore_n hc dX2_readAtom_11 (Nat.le_of_ble_eq_true rfl) hf (fun v2 hf => ?_)
  refine j_iload_n hc dX2_readAtom_12 rfl ?_
  refine j_iconst (v := (-1 : Int32)) hc dX2_readAtom_13 ci_m1 ?_
  refine j_icmp_ne (tgt := 19) hc dX2_readAtom_14 rfl hf (fun hf => ?_) (fun hf => ?_)
  · refine j_aload_n hc dX2_readAtom_19 rfl ?_
    refine j_getR (u := 1) hc dX2_readAtom_20 (fgC_X2_24_27 _) (rC_27_0 _) ?_
    refine j_aload_n hc dX2_readAtom_23 rfl ?_
    refine j_getI hc dX2_readAtom_24 (fgC_X2_21_27 _) ?_
    refine j_callVI (t := 1) (As := [.int (I1 27 3)]) hc dX2_readAtom_27 kw_763 mX8_digitAt (kC_1 _) clX8 rfl (by omega) (Nat.le_of_ble_eq_true rfl) (Nat.le_of_ble_eq_true rfl) ⟨Nat.le_refl _, Nat.le_refl _⟩ hf (fun v I' L' h => qX8_digitAt x.2.1 n d (I1 27 3) I1 L1 v I' L' h) (fun v3 I3 L3 hf => ?_)
    refine j_if_eq (tgt := 38) hc dX2_readAtom_30 rfl hf (fun hf => ?_) (fun hf => ?_)
    · refine j_iload_n hc dX2_readAtom_38 rfl ?_
      refine j_bipush (v := (91 : Int32)) hc dX2_readAtom_39 cb_91 ?_
      refine j_icmp_ne (tgt := 81) hc dX2_readAtom_41 rfl hf (fun hf => ?_) (fun hf => ?_)
      · refine j_ldcS (t := 1000012) hc dX2_readAtom_81 cS1000012 ?_
        refine j_iload_n hc dX2_readAtom_83 rfl ?_
        refine j_i2c hc dX2_readAtom_84 ?_
        refine j_callKI (t := 1000012) (As := [.int (v2.toUInt32 % 65536).toInt32]) hc dX2_readAtom_85 kw_777 mJ0_indexOf_0f7a4 cQ1000012 rfl (by omega) (Nat.le_of_ble_eq_true rfl) (Nat.le_of_ble_eq_true rfl) ⟨Nat.le_refl _, Nat.le_refl _⟩ hf (fun v I' L' h => qJ0_indexOf_0f7a4_k12 x.2.1 n d ((v2.toUInt32 % 65536).toInt32) I3 L3 v I' L' h) (fun v4 I4 L4 hf => ?_)
        refine j_istore_n hc dX2_readAtom_88 (Nat.le_of_ble_eq_true rfl) hf (fun v5 hf => ?_)
        refine j_iload_n hc dX2_readAtom_89 rfl ?_
        refine j_if_ge (tgt := 95) hc dX2_readAtom_90 rfl hf (fun hf => ?_) (fun hf => ?_)
        · refine j_aload_n hc dX2_readAtom_95 rfl ?_
          refine j_iconst (v := (-1 : Int32)) hc dX2_readAtom_96 ci_m1 ?_
          refine j_iload_n hc dX2_readAtom_97 rfl ?_
          refine j_isub hc dX2_readAtom_98 ?_
          refine j_callVV (t := 27) (As := [.int ((-1 : Int32) - v5)]) hc dX2_readAtom_99 kw_768 mX2_put (kC_27 _) clX2 rfl (by omega) (Nat.le_of_ble_eq_true rfl) (Nat.le_of_ble_eq_true rfl) ⟨Nat.le_refl _, Nat.le_refl _⟩ hf (fun I' L' h => qX2_put x.2.1 n d ((-1 : Int32) - v5) I4 L4 I' L' h) (fun I6 L6 hf => ?_)
          refine j_aload_n hc dX2_readAtom_102 rfl ?_
          refine j_callVV (t := 27) (As := []) hc dX2_readAtom_103 kw_772 mX2_goOn (kC_27 _) clX2 rfl (by omega) (Nat.le_of_ble_eq_true rfl) (Nat.le_of_ble_eq_true rfl) ⟨Nat.le_refl _, Nat.le_refl _⟩ hf (fun I' L' h => qX2_goOn x.2.1 n d I6 L6 I' L' h) (fun I7 L7 hf => ?_)
          refine j_iconst (v := (1 : Int32)) hc dX2_readAtom_106 ci_1 ?_
          exact j_zret hc dX2_readAtom_107 rfl rfl (Or.inr rfl) hf
        · refine j_iconst (v := (0 : Int32)) hc dX2_readAtom_93 ci_0 ?_
          exact j_zret hc dX2_readAtom_94 rfl rfl (Or.inl rfl) hf
      · refine j_iload_n hc dX2_readAtom_44 rfl ?_
        refine j_bipush (v := (6 : Int32)) hc dX2_readAtom_45 cb_6 ?_
        refine j_icmp_lt (tgt := 52) hc dX2_readAtom_47 rfl hf (fun hf => ?_) (fun hf => ?_)
        · refine j_aload_n hc dX2_readAtom_52 rfl ?_
          refine j_callVV (t := 27) (As := []) hc dX2_readAtom_53 kw_772 mX2_goOn (kC_27 _) clX2 rfl (by omega) (Nat.le_of_ble_eq_true rfl) (Nat.le_of_ble_eq_true rfl) ⟨Nat.le_refl _, Nat.le_refl _⟩ hf (fun I' L' h => qX2_goOn x.2.1 n d I3 L3 I' L' h) (fun I8 L8 hf => ?_)
          refine j_aload_n hc dX2_readAtom_56 rfl ?_
          refine j_iload_n hc dX2_readAtom_57 rfl ?_
          refine j_iconst (v := (1 : Int32)) hc dX2_readAtom_58 ci_1 ?_
          refine j_iadd hc dX2_readAtom_59 ?_
          refine j_callVI (t := 27) (As := [.int (a1 + (1 : Int32))]) hc dX2_readAtom_60 kw_751 mX2_readSum (kC_27 _) clX2 rfl (by omega) (Nat.le_of_ble_eq_true rfl) (Nat.le_of_ble_eq_true rfl) ⟨Nat.le_refl _, Nat.le_refl _⟩ hf (fun v I' L' h => (hg 0 _ _ _ _ _ _ _ _ _ _ h).1 rfl) (fun v9 I9 L9 hf => ?_)
          refine j_if_eq (tgt := 79) hc dX2_readAtom_63 rfl hf (fun hf => ?_) (fun hf => ?_)
          · refine j_iconst (v := (0 : Int32)) hc dX2_readAtom_79 ci_0 ?_
            exact j_zret hc dX2_readAtom_80 rfl rfl (Or.inl rfl) hf
          · refine j_aload_n hc dX2_readAtom_66 rfl ?_
            refine j_bipush (v := (93 : Int32)) hc dX2_readAtom_67 cb_93 ?_
            refine j_callVI (t := 27) (As := [.int (93 : Int32)]) hc dX2_readAtom_69 kw_738 mX2_takes (kC_27 _) clX2 rfl (by omega) (Nat.le_of_ble_eq_true rfl) (Nat.le_of_ble_eq_true rfl) ⟨Nat.le_refl _, Nat.le_refl _⟩ hf (fun v I' L' h => qX2_takes x.2.1 n d (93 : Int32) I9 L9 v I' L' h) (fun v10 I10 L10 hf => ?_)
            refine j_if_eq (tgt := 79) hc dX2_readAtom_72 rfl hf (fun hf => ?_) (fun hf => ?_)
            · refine j_iconst (v := (0 : Int32)) hc dX2_readAtom_79 ci_0 ?_
              exact j_zret hc dX2_readAtom_80 rfl rfl (Or.inl rfl) hf
            · refine j_iconst (v := (1 : Int32)) hc dX2_readAtom_75 ci_1 ?_
              refine j_goto (tgt := 80) hc dX2_readAtom_76 rfl ?_
              exact j_zret hc dX2_readAtom_80 rfl rfl (Or.inr rfl) hf
        · refine j_iconst (v := (0 : Int32)) hc dX2_readAtom_50 ci_0 ?_
          exact j_zret hc dX2_readAtom_51 rfl rfl (Or.inl rfl) hf
    · refine j_aload_n hc dX2_readAtom_33 rfl ?_
      refine j_callVI (t := 27) (As := []) hc dX2_readAtom_34 kw_764 mX2_readNumber (kC_27 _) clX2 rfl (by omega) (Nat.le_of_ble_eq_true rfl) (Nat.le_of_ble_eq_true rfl) ⟨Nat.le_refl _, Nat.le_refl _⟩ hf (fun v I' L' h => qX2_readNumber x.2.1 n d I3 L3 v I' L' h) (fun v11 I11 L11 hf => ?_)
      exact j_zreturn hc dX2_readAtom_37 rfl rfl hf
  · refine j_iconst (v := (0 : Int32)) hc dX2_readAtom_17 ci_0 ?_
    exact j_zret hc dX2_readAtom_18 rfl rfl (Or.inl rfl) hf

def gX2_readSum (n : Nat) : Nat → Nat → Int32 → Int32 → Int32 → Int32 → Int32 → am_I → am_L → Option (Int32 × am_I × am_L)
  | 0 => fun _ _ _ _ _ _ _ _ => none
  | d + 1 => fun w e1 e2 e3 e4 e5 I L => match w with
    | 0 => fX2_readSum_g n d (gX2_readSum n d) e1 I L
    | 1 => fX2_readTerm_g n d (gX2_readSum n d) e1 I L
    | 2 => fX2_readAtom_g n d (gX2_readSum n d) e1 I L
    | _ => none
set_option maxRecDepth 100000 in
set_option maxHeartbeats 4000000 in
theorem cgX2_readSum (l : Launch) {al : Bool} (n d : Nat) : ∀ (w : Nat) (e1 e2 e3 e4 e5 : Int32) (I : am_I) (L : am_L) (v : Int32) (I' : am_I) (L' : am_L), gX2_readSum n d w e1 e2 e3 e4 e5 I L = some (v, I', L') → (w = 0 → am_C l yX2_readSum cX2_readSum 4 (some .boolean) (d + 5) [.ref 27, .int e1] (KC al) (RC al) I L (some (.int v)) I' L') ∧ (w = 1 → am_C l yX2_readTerm cX2_readTerm 4 (some .boolean) (d + 5) [.ref 27, .int e1] (KC al) (RC al) I L (some (.int v)) I' L') ∧ (w = 2 → am_C l yX2_readAtom cX2_readAtom 4 (some .boolean) (d + 5) [.ref 27, .int e1] (KC al) (RC al) I L (some (.int v)) I' L') := by
  induction d with
  | zero => intro w e1 e2 e3 e4 e5 I L v I' L' hf; exact (Option.some_ne_none _ hf.symm).elim
  | succ d ih =>
    intro w e1 e2 e3 e4 e5 I L v I' L' hf
    refine ⟨?_, ?_, ?_⟩
    · exact fun hw => by
          subst hw
          exact am_intro (plainFor_of_name plX2) (fun _ _ => trivial) (Nat.le_of_ble_eq_true rfl) (fun x hl hc => by subst hl; exact j_sub (tX2_readSum_g n d (gX2_readSum n d) ih hc _ _ _ hf) (And.intro rfl (And.intro rfl (trivial))))
    · exact fun hw => by
          subst hw
          exact am_intro (plainFor_of_name plX2) (fun _ _ => trivial) (Nat.le_of_ble_eq_true rfl) (fun x hl hc => by subst hl; exact j_sub (tX2_readTerm_g n d (gX2_readSum n d) ih hc _ _ _ hf) (And.intro rfl (And.intro rfl (trivial))))
    · exact fun hw => by
          subst hw
          exact am_intro (plainFor_of_name plX2) (fun _ _ => trivial) (Nat.le_of_ble_eq_true rfl) (fun x hl hc => by subst hl; exact j_sub (tX2_readAtom_g n d (gX2_readSum n d) ih hc _ _ _ hf) (And.intro rfl (And.intro rfl (trivial))))
def fX2_readSum (n d : Nat) (a1 : Int32) (I : am_I) (L : am_L) : Option (Int32 × am_I × am_L) := gX2_readSum n d 0 a1 0 0 0 0 I L
theorem qX2_readSum (l : Launch) {al : Bool} (n d : Nat) (a1 : Int32) (I : am_I) (L : am_L) (r : Int32) (I' : am_I) (L' : am_L) (hf : fX2_readSum n d a1 I L = some (r, I', L')) : am_C l yX2_readSum cX2_readSum 4 (some .boolean) (d + 5) [.ref 27, .int a1] (KC al) (RC al) I L (some (.int r)) I' L' := by
  exact (cgX2_readSum l n d _ _ _ _ _ _ _ _ _ _ _ hf).1 rfl
def fX2_readTerm (n d : Nat) (a1 : Int32) (I : am_I) (L : am_L) : Option (Int32 × am_I × am_L) := gX2_readSum n d 1 a1 0 0 0 0 I L
theorem qX2_readTerm (l : Launch) {al : Bool} (n d : Nat) (a1 : Int32) (I : am_I) (L : am_L) (r : Int32) (I' : am_I) (L' : am_L) (hf : fX2_readTerm n d a1 I L = some (r, I', L')) : am_C l yX2_readTerm cX2_readTerm 4 (some .boolean) (d + 5) [.ref 27, .int a1] (KC al) (RC al) I L (some (.int r)) I' L' := by
  exact (cgX2_readSum l n d _ _ _ _ _ _ _ _ _ _ _ hf).2.1 rfl
def fX2_readAtom (n d : Nat) (a1 : Int32) (I : am_I) (L : am_L) : Option (Int32 × am_I × am_L) := gX2_readSum n d 2 a1 0 0 0 0 I L
theorem qX2_readAtom (l : Launch) {al : Bool} (n d : Nat) (a1 : Int32) (I : am_I) (L : am_L) (r : Int32) (I' : am_I) (L' : am_L) (hf : fX2_readAtom n d a1 I L = some (r, I', L')) : am_C l yX2_readAtom cX2_readAtom 4 (some .boolean) (d + 5) [.ref 27, .int a1] (KC al) (RC al) I L (some (.int r)) I' L' := by
  exact (cgX2_readSum l n d _ _ _ _ _ _ _ _ _ _ _ hf).2.2 rfl
