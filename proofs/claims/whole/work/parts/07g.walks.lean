set_option maxRecDepth 100000 in
def fX12_ahead_b39 (n d : Nat) (k14 : Int32 → Int32 → Int32 → am_I → am_L → Option (Int32 × am_I × am_L)) (s0 : Int32) (s1 : Int32) (a1 : Int32) (a3 : Int32) (I : am_I) (L : am_L) : Option (Int32 × am_I × am_L) :=
  am_lt (s0 ||| s1) (fun v1 => am_lt (a3 + (1 : Int32)) (fun v2 => k14 a1 v1 v2 I L))

set_option maxRecDepth 100000 in
set_option maxHeartbeats 4000000 in
theorem tX12_ahead_b39 {x : am_X} (n d : Nat) (hc : am_ok x cX12_ahead yX12_ahead 4 (some .int) (d + 3) 0 0) {r : Int32} {I' : am_I} {L' : am_L} (k14 : Int32 → Int32 → Int32 → am_I → am_L → Option (Int32 × am_I × am_L)) (hk14 : ∀ (a1 : Int32) (a2 : Int32) (a3 : Int32) (I : am_I) (L : am_L), k14 a1 a2 a3 I L = some (r, I', L') → am_J x (fun S => S = (some (.int r), KM, RM, I', L')) 14 [some (.ref 0), some (.int a1), some (.int a2), some (.int a3)] [] KM RM I L 0 0) (s0 : Int32) (s1 : Int32) (a1 : Int32) (a3 : Int32) (I : am_I) (L : am_L) (hf : fX12_ahead_b39 n d k14 s0 s1 a1 a3 I L = some (r, I', L')) : am_J x (fun S => S = (some (.int r), KM, RM, I', L')) 39 [some (.ref 0), some (.int a1), none, some (.int a3)] [.int s1, .int s0] KM RM I L 0 0 := by
  unfold fX12_ahead_b39 at hf
  refine j_ior hc dX12_ahead_39 ?_
  refine j_istore_n hc dX12_ahead_40 (Nat.le_of_ble_eq_true rfl) hf (fun v1 hf => ?_)
  refine j_iinc (w := (1 : Int32)) hc dX12_ahead_41 rfl ci_1 (Nat.le_of_ble_eq_true rfl) hf (fun v2 hf => ?_)
  refine j_goto (tgt := 14) hc dX12_ahead_44 rfl ?_
  exact j_sub (hk14 _ _ _ _ _ hf) (And.intro rfl (And.intro rfl (And.intro rfl (And.intro rfl (trivial)))))

set_option maxRecDepth 100000 in
def fX12_ahead_b14w (n d : Nat) (k14 : Int32 → Int32 → Int32 → am_I → am_L → Option (Int32 × am_I × am_L)) (a1 : Int32) (a2 : Int32) (a3 : Int32) (I : am_I) (L : am_L) : Option (Int32 × am_I × am_L) :=
  if (I 0 26) ≤ a3 then
    (some (a2, I, L))
    else
    (am_b3 (fX12_isAhead n d a1 a3 I L) (fun v1 I1 L1 => if v1 = 0 then
      (fX12_ahead_b39 n d k14 a2 (0 : Int32) a1 a3 I1 L1)
      else
      (fX12_ahead_b39 n d k14 a2 ((1 : Int32) <<< (a3 &&& 31)) a1 a3 I1 L1)))

set_option maxRecDepth 100000 in
set_option maxHeartbeats 4000000 in
theorem tX12_ahead_b14w {x : am_X} (n d : Nat) (hc : am_ok x cX12_ahead yX12_ahead 4 (some .int) (d + 3) 0 0) {r : Int32} {I' : am_I} {L' : am_L} (k14 : Int32 → Int32 → Int32 → am_I → am_L → Option (Int32 × am_I × am_L)) (hk14 : ∀ (a1 : Int32) (a2 : Int32) (a3 : Int32) (I : am_I) (L : am_L), k14 a1 a2 a3 I L = some (r, I', L') → am_J x (fun S => S = (some (.int r), KM, RM, I', L')) 14 [some (.ref 0), some (.int a1), some (.int a2), some (.int a3)] [] KM RM I L 0 0) (a1 : Int32) (a2 : Int32) (a3 : Int32) (I : am_I) (L : am_L) (hf : fX12_ahead_b14w n d k14 a1 a2 a3 I L = some (r, I', L')) : am_J x (fun S => S = (some (.int r), KM, RM, I', L')) 14 [some (.ref 0), some (.int a1), some (.int a2), some (.int a3)] [] KM RM I L 0 0 := by
  unfold fX12_ahead_b14w at hf
  refine j_iload_n hc dX12_ahead_14 rfl ?_
  refine j_aload_n hc dX12_ahead_15 rfl ?_
  refine j_getI hc dX12_ahead_16 fgM_X12_253_0 ?_
  refine j_icmp_ge (tgt := 47) hc dX12_ahead_19 rfl hf (fun hf => ?_) (fun hf => ?_)
  · refine j_iload_n hc dX12_ahead_47 rfl ?_
    exact j_ireturn hc dX12_ahead_48 rfl rfl hf
  · refine j_iload_n hc dX12_ahead_22 rfl ?_
    refine j_aload_n hc dX12_ahead_23 rfl ?_
    refine j_iload_n hc dX12_ahead_24 rfl ?_
    refine j_iload_n hc dX12_ahead_25 rfl ?_
    refine j_callVI (t := 0) (As := [.int a1, .int a3]) hc dX12_ahead_26 kw_2006 mX12_isAhead kM_0 clX12 rfl (by omega) (Nat.le_of_ble_eq_true rfl) (Nat.le_of_ble_eq_true rfl) ⟨Nat.le_refl _, Nat.le_refl _⟩ hf (fun v I' L' h => qX12_isAhead x.2.1 n d a1 a3 I L v I' L' h) (fun v1 I1 L1 hf => ?_)
    refine j_if_eq (tgt := 38) hc dX12_ahead_29 rfl hf (fun hf => ?_) (fun hf => ?_)
    · refine j_iconst (v := (0 : Int32)) hc dX12_ahead_38 ci_0 ?_
      exact j_sub (tX12_ahead_b39 n d hc k14 hk14 _ _ _ _ _ _ hf) (And.intro rfl (And.intro rfl (And.intro rfl (trivial))))
    · refine j_iconst (v := (1 : Int32)) hc dX12_ahead_32 ci_1 ?_
      refine j_iload_n hc dX12_ahead_33 rfl ?_
      refine j_ishl hc dX12_ahead_34 ?_
      refine j_goto (tgt := 39) hc dX12_ahead_35 rfl ?_
      exact j_sub (tX12_ahead_b39 n d hc k14 hk14 _ _ _ _ _ _ hf) (And.intro rfl (And.intro rfl (And.intro rfl (trivial))))

def fX12_ahead_b14 (n d : Nat) : Nat → Int32 → Int32 → Int32 → am_I → am_L → Option (Int32 × am_I × am_L)
  | 0 => fun _ _ _ _ _ => none
  | m + 1 => fX12_ahead_b14w n d  (fX12_ahead_b14 n d m)

set_option maxRecDepth 100000 in
theorem tX12_ahead_b14 {x : am_X} (n d : Nat) (hc : am_ok x cX12_ahead yX12_ahead 4 (some .int) (d + 3) 0 0) {r : Int32} {I' : am_I} {L' : am_L} (m : Nat) : ∀ (a1 : Int32) (a2 : Int32) (a3 : Int32) (I : am_I) (L : am_L) (hf : fX12_ahead_b14 n d m a1 a2 a3 I L = some (r, I', L')), am_J x (fun S => S = (some (.int r), KM, RM, I', L')) 14 [some (.ref 0), some (.int a1), some (.int a2), some (.int a3)] [] KM RM I L 0 0 := by
  induction m with
  | zero => intro a1 a2 a3 I L hf; exact (Option.some_ne_none _ hf.symm).elim
  | succ m ih => intro a1 a2 a3 I L hf; exact tX12_ahead_b14w n d hc (fX12_ahead_b14 n d m) ih a1 a2 a3 I L hf

set_option maxRecDepth 100000 in
def fX12_ahead (n d : Nat) (a1 : Int32) (I : am_I) (L : am_L) : Option (Int32 × am_I × am_L) :=
  am_b3 (fX12_isMan n d a1 I L) (fun v1 I1 L1 => if v1 = 0 then
    (some ((-1 : Int32), I1, L1))
    else
    (am_lt (0 : Int32) (fun v2 => am_lt (0 : Int32) (fun v3 => fX12_ahead_b14 n d n a1 v2 v3 I1 L1))))

set_option maxRecDepth 100000 in
set_option maxHeartbeats 4000000 in
theorem tX12_ahead {x : am_X} (n d : Nat) (hc : am_ok x cX12_ahead yX12_ahead 4 (some .int) (d + 3) 0 0) {r : Int32} {I' : am_I} {L' : am_L} (a1 : Int32) (I : am_I) (L : am_L) (hf : fX12_ahead n d a1 I L = some (r, I', L')) : am_J x (fun S => S = (some (.int r), KM, RM, I', L')) 0 [some (.ref 0), some (.int a1), none, none] [] KM RM I L 0 0 := by
  unfold fX12_ahead at hf
  refine j_aload_n hc dX12_ahead_0 rfl ?_
  refine j_iload_n hc dX12_ahead_1 rfl ?_
  refine j_callVI (t := 0) (As := [.int a1]) hc dX12_ahead_2 kw_1768 mX12_isMan kM_0 clX12 rfl (by omega) (Nat.le_of_ble_eq_true rfl) (Nat.le_of_ble_eq_true rfl) ⟨Nat.le_refl _, Nat.le_refl _⟩ hf (fun v I' L' h => qX12_isMan x.2.1 n d a1 I L v I' L' h) (fun v1 I1 L1 hf => ?_)
  refine j_if_ne (tgt := 10) hc dX12_ahead_5 rfl hf (fun hf => ?_) (fun hf => ?_)
  · refine j_iconst (v := (0 : Int32)) hc dX12_ahead_10 ci_0 ?_
    refine j_istore_n hc dX12_ahead_11 (Nat.le_of_ble_eq_true rfl) hf (fun v2 hf => ?_)
    refine j_iconst (v := (0 : Int32)) hc dX12_ahead_12 ci_0 ?_
    refine j_istore_n hc dX12_ahead_13 (Nat.le_of_ble_eq_true rfl) hf (fun v3 hf => ?_)
    exact j_sub (tX12_ahead_b14 n d hc n _ _ _ _ _ hf) (And.intro rfl (And.intro rfl (And.intro rfl (And.intro rfl (trivial)))))
  · refine j_iconst (v := (-1 : Int32)) hc dX12_ahead_8 ci_m1 ?_
    exact j_ireturn hc dX12_ahead_9 rfl rfl hf

set_option maxRecDepth 100000 in
theorem qX12_ahead (l : Launch) (n d : Nat) (a1 : Int32) (I : am_I) (L : am_L) (r : Int32) (I' : am_I) (L' : am_L) (hf : fX12_ahead n d a1 I L = some (r, I', L')) : am_C l yX12_ahead cX12_ahead 4 (some .int) (d + 3) [.ref 0, .int a1] KM RM I L (some (.int r)) I' L' := by
  exact am_intro (plainFor_of_name plX12) (fun _ _ => trivial) (Nat.le_of_ble_eq_true rfl) (fun x hl hc => by subst hl; exact j_sub (tX12_ahead n d hc _ _ _ hf) (And.intro rfl (And.intro rfl (trivial))))
set_option maxRecDepth 100000 in
def fX12_meeting (n d : Nat) (a1 : Int32) (a2 : Int32) (I : am_I) (L : am_L) : Option (Int32 × am_I × am_L) :=
  am_b3 (fX12_isMan n d a1 I L) (fun v1 I1 L1 => if v1 = 0 then
    (some ((-1 : Int32), I1, L1))
    else
    (am_b3 (fX12_isMan n d a2 I1 L1) (fun v2 I2 L2 => if v2 = 0 then
      (some ((-1 : Int32), I2, L2))
      else
      (am_ck ((0 : Int32) + a1) 206 (am_lt (I2 17 (((0 : Int32) + a1)).toNatClampNeg) (fun v3 => am_ck ((0 : Int32) + a2) 206 (am_lt (I2 17 (((0 : Int32) + a2)).toNatClampNeg) (fun v4 => am_b3 (fJ9_abs_0f7a4 n d (v3 - v4) I2 L2) (fun v5 I5 L5 => some (v5, I5, L5))))))))))

set_option maxRecDepth 100000 in
set_option maxHeartbeats 4000000 in
theorem tX12_meeting {x : am_X} (n d : Nat) (hc : am_ok x cX12_meeting yX12_meeting 3 (some .int) (d + 3) 0 0) {r : Int32} {I' : am_I} {L' : am_L} (a1 : Int32) (a2 : Int32) (I : am_I) (L : am_L) (hf : fX12_meeting n d a1 a2 I L = some (r, I', L')) : am_J x (fun S => S = (some (.int r), KM, RM, I', L')) 0 [some (.ref 0), some (.int a1), some (.int a2)] [] KM RM I L 0 0 := by
  unfold fX12_meeting at hf
  refine j_aload_n hc dX12_meeting_0 rfl ?_
  refine j_iload_n hc dX12_meeting_1 rfl ?_
  refine j_callVI (t := 0) (As := [.int a1]) hc dX12_meeting_2 kw_1768 mX12_isMan kM_0 clX12 rfl (by omega) (Nat.le_of_ble_eq_true rfl) (Nat.le_of_ble_eq_true rfl) ⟨Nat.le_refl _, Nat.le_refl _⟩ hf (fun v I' L' h => qX12_isMan x.2.1 n d a1 I L v I' L' h) (fun v1 I1 L1 hf => ?_)
  refine j_if_eq (tgt := 39) hc dX12_meeting_5 rfl hf (fun hf => ?_) (fun hf => ?_)
  · refine j_iconst (v := (-1 : Int32)) hc dX12_meeting_39 ci_m1 ?_
    exact j_ireturn hc dX12_meeting_40 rfl rfl hf
  · refine j_aload_n hc dX12_meeting_8 rfl ?_
    refine j_iload_n hc dX12_meeting_9 rfl ?_
    refine j_callVI (t := 0) (As := [.int a2]) hc dX12_meeting_10 kw_1768 mX12_isMan kM_0 clX12 rfl (by omega) (Nat.le_of_ble_eq_true rfl) (Nat.le_of_ble_eq_true rfl) ⟨Nat.le_refl _, Nat.le_refl _⟩ hf (fun v I' L' h => qX12_isMan x.2.1 n d a2 I1 L1 v I' L' h) (fun v2 I2 L2 hf => ?_)
    refine j_if_eq (tgt := 39) hc dX12_meeting_13 rfl hf (fun hf => ?_) (fun hf => ?_)
    · refine j_iconst (v := (-1 : Int32)) hc dX12_meeting_39 ci_m1 ?_
      exact j_ireturn hc dX12_meeting_40 rfl rfl hf
    · refine j_aload_n hc dX12_meeting_16 rfl ?_
      refine j_getR (u := 17) hc dX12_meeting_17 fgM_X12_58_0 rM_0_27 ?_
      refine j_iconst (v := (0 : Int32)) hc dX12_meeting_20 ci_0 ?_
      refine j_iload_n hc dX12_meeting_21 rfl ?_
      refine j_iadd hc dX12_meeting_22 ?_
      refine j_iaload (n := 206) hc dX12_meeting_23 kM_17 hf (fun v3 hf => ?_)
      refine j_aload_n hc dX12_meeting_24 rfl ?_
      refine j_getR (u := 17) hc dX12_meeting_25 fgM_X12_58_0 rM_0_27 ?_
      refine j_iconst (v := (0 : Int32)) hc dX12_meeting_28 ci_0 ?_
      refine j_iload_n hc dX12_meeting_29 rfl ?_
      refine j_iadd hc dX12_meeting_30 ?_
      refine j_iaload (n := 206) hc dX12_meeting_31 kM_17 hf (fun v4 hf => ?_)
      refine j_isub hc dX12_meeting_32 ?_
      refine j_callSI (As := [.int (v3 - v4)]) hc dX12_meeting_33 kw_1943 mJ9_abs_0f7a4  rfl (by omega) (Nat.le_of_ble_eq_true rfl) (Nat.le_of_ble_eq_true rfl) ⟨Nat.le_refl _, Nat.le_refl _⟩ hf (fun v I' L' h => qJ9_abs_0f7a4 x.2.1 n d (v3 - v4) I2 L2 v I' L' h) (fun v5 I5 L5 hf => ?_)
      refine j_goto (tgt := 40) hc dX12_meeting_36 rfl ?_
      exact j_ireturn hc dX12_meeting_40 rfl rfl hf

set_option maxRecDepth 100000 in
theorem qX12_meeting (l : Launch) (n d : Nat) (a1 : Int32) (a2 : Int32) (I : am_I) (L : am_L) (r : Int32) (I' : am_I) (L' : am_L) (hf : fX12_meeting n d a1 a2 I L = some (r, I', L')) : am_C l yX12_meeting cX12_meeting 3 (some .int) (d + 3) [.ref 0, .int a1, .int a2] KM RM I L (some (.int r)) I' L' := by
  exact am_intro (plainFor_of_name plX12) (fun _ _ => trivial) (Nat.le_of_ble_eq_true rfl) (fun x hl hc => by subst hl; exact j_sub (tX12_meeting n d hc _ _ _ _ hf) (And.intro rfl (And.intro rfl (And.intro rfl (trivial)))))
set_option maxRecDepth 100000 in
def fX12_image_b11w (n d : Nat) (k11 : Int32 → am_I → am_L → Option (Int32 × am_I × am_L)) (a1 : Int32) (I : am_I) (L : am_L) : Option (Int32 × am_I × am_L) :=
  if (206 : Int32) ≤ a1 then
    (am_bl (1 : Int32) (am_lt (am_up I 0 43 (1 : Int32)) (fun I1 => am_ck (24 : Int32) 206 (am_lt (I1 17 ((24 : Int32)).toNatClampNeg) (fun v2 => some (v2, I1, L))))))
    else
    (am_ck a1 206 (am_lt (I 17 (a1).toNatClampNeg) (fun v3 => am_ck a1 206 (am_lt (am_up I 25 (a1).toNatClampNeg v3) (fun I4 => am_lt (a1 + (1 : Int32)) (fun v5 => k11 v5 I4 L))))))

set_option maxRecDepth 100000 in
set_option maxHeartbeats 4000000 in
theorem tX12_image_b11w {x : am_X} (n d : Nat) (hc : am_ok x cX12_image yX12_image 2 (some .int) (d + 1) 0 0) {r : Int32} {I' : am_I} {L' : am_L} (k11 : Int32 → am_I → am_L → Option (Int32 × am_I × am_L)) (hk11 : ∀ (a1 : Int32) (I : am_I) (L : am_L), k11 a1 I L = some (r, I', L') → am_J x (fun S => S = (some (.int r), KM, RM, I', L')) 11 [some (.ref 0), some (.int a1)] [] KM RM I L 0 0) (a1 : Int32) (I : am_I) (L : am_L) (hf : fX12_image_b11w n d k11 a1 I L = some (r, I', L')) : am_J x (fun S => S = (some (.int r), KM, RM, I', L')) 11 [some (.ref 0), some (.int a1)] [] KM RM I L 0 0 := by
  unfold fX12_image_b11w at hf
  refine j_iload_n hc dX12_image_11 rfl ?_
  refine j_sipush (v := (206 : Int32)) hc dX12_image_12 cs_206 ?_
  refine j_icmp_ge (tgt := 36) hc dX12_image_15 rfl hf (fun hf => ?_) (fun hf => ?_)
  · refine j_aload_n hc dX12_image_36 rfl ?_
    refine j_iconst (v := (1 : Int32)) hc dX12_image_37 ci_1 ?_
    refine j_putZ hc dX12_image_38 fpM_X12_265_0 rfl hf (fun I1 hf => ?_)
    refine j_aload_n hc dX12_image_41 rfl ?_
    refine j_getR (u := 17) hc dX12_image_42 fgM_X12_58_0 rM_0_27 ?_
    refine j_bipush (v := (24 : Int32)) hc dX12_image_45 cb_24 ?_
    refine j_iaload (n := 206) hc dX12_image_47 kM_17 hf (fun v2 hf => ?_)
    exact j_ireturn hc dX12_image_48 rfl rfl hf
  · refine j_aload_n hc dX12_image_18 rfl ?_
    refine j_getR (u := 25) hc dX12_image_19 fgM_X12_88_0 rM_0_42 ?_
    refine j_iload_n hc dX12_image_22 rfl ?_
    refine j_aload_n hc dX12_image_23 rfl ?_
    refine j_getR (u := 17) hc dX12_image_24 fgM_X12_58_0 rM_0_27 ?_
    refine j_iload_n hc dX12_image_27 rfl ?_
    refine j_iaload (n := 206) hc dX12_image_28 kM_17 hf (fun v3 hf => ?_)
    refine j_iastore (n := 206) hc dX12_image_29 kM_25 hf (fun I4 hf => ?_)
    refine j_iinc (w := (1 : Int32)) hc dX12_image_30 rfl ci_1 (Nat.le_of_ble_eq_true rfl) hf (fun v5 hf => ?_)
    refine j_goto (tgt := 11) hc dX12_image_33 rfl ?_
    exact j_sub (hk11 _ _ _ hf) (And.intro rfl (And.intro rfl (trivial)))

def fX12_image_b11 (n d : Nat) : Nat → Int32 → am_I → am_L → Option (Int32 × am_I × am_L)
  | 0 => fun _ _ _ => none
  | m + 1 => fX12_image_b11w n d  (fX12_image_b11 n d m)

set_option maxRecDepth 100000 in
theorem tX12_image_b11 {x : am_X} (n d : Nat) (hc : am_ok x cX12_image yX12_image 2 (some .int) (d + 1) 0 0) {r : Int32} {I' : am_I} {L' : am_L} (m : Nat) : ∀ (a1 : Int32) (I : am_I) (L : am_L) (hf : fX12_image_b11 n d m a1 I L = some (r, I', L')), am_J x (fun S => S = (some (.int r), KM, RM, I', L')) 11 [some (.ref 0), some (.int a1)] [] KM RM I L 0 0 := by
  induction m with
  | zero => intro a1 I L hf; exact (Option.some_ne_none _ hf.symm).elim
  | succ m ih => intro a1 I L hf; exact tX12_image_b11w n d hc (fX12_image_b11 n d m) ih a1 I L hf

set_option maxRecDepth 100000 in
def fX12_image (n d : Nat) (I : am_I) (L : am_L) : Option (Int32 × am_I × am_L) :=
  if (I 0 25) = 0 then
    (some ((-1 : Int32), I, L))
    else
    (am_lt (0 : Int32) (fun v1 => fX12_image_b11 n d n v1 I L))

set_option maxRecDepth 100000 in
set_option maxHeartbeats 4000000 in
theorem tX12_image {x : am_X} (n d : Nat) (hc : am_ok x cX12_image yX12_image 2 (some .int) (d + 1) 0 0) {r : Int32} {I' : am_I} {L' : am_L} (I : am_I) (L : am_L) (hf : fX12_image n d I L = some (r, I', L')) : am_J x (fun S => S = (some (.int r), KM, RM, I', L')) 0 [some (.ref 0), none] [] KM RM I L 0 0 := by
  unfold fX12_image at hf
  refine j_aload_n hc dX12_image_0 rfl ?_
  refine j_getI hc dX12_image_1 fgM_X12_250_0 ?_
  refine j_if_ne (tgt := 9) hc dX12_image_4 rfl hf (fun hf => ?_) (fun hf => ?_)
  · refine j_iconst (v := (0 : Int32)) hc dX12_image_9 ci_0 ?_
    refine j_istore_n hc dX12_image_10 (Nat.le_of_ble_eq_true rfl) hf (fun v1 hf => ?_)
    exact j_sub (tX12_image_b11 n d hc n _ _ _ hf) (And.intro rfl (And.intro rfl (trivial)))
  · refine j_iconst (v := (-1 : Int32)) hc dX12_image_7 ci_m1 ?_
    exact j_ireturn hc dX12_image_8 rfl rfl hf

set_option maxRecDepth 100000 in
theorem qX12_image (l : Launch) (n d : Nat) (I : am_I) (L : am_L) (r : Int32) (I' : am_I) (L' : am_L) (hf : fX12_image n d I L = some (r, I', L')) : am_C l yX12_image cX12_image 2 (some .int) (d + 1) [.ref 0] KM RM I L (some (.int r)) I' L' := by
  exact am_intro (plainFor_of_name plX12) (fun _ _ => trivial) (Nat.le_of_ble_eq_true rfl) (fun x hl hc => by subst hl; exact j_sub (tX12_image n d hc  _ _ hf) (And.intro rfl (trivial)))
set_option maxRecDepth 100000 in
def fX12_back_b11w (n d : Nat) (k11 : Int32 → am_I → am_L → Option (Int32 × am_I × am_L)) (a1 : Int32) (I : am_I) (L : am_L) : Option (Int32 × am_I × am_L) :=
  if (206 : Int32) ≤ a1 then
    (am_lt (am_up I 0 30 (0 : Int32)) (fun I1 => am_ck (24 : Int32) 206 (am_lt (I1 17 ((24 : Int32)).toNatClampNeg) (fun v2 => some (v2, I1, L)))))
    else
    (am_ck a1 206 (am_lt (I 25 (a1).toNatClampNeg) (fun v3 => am_ck a1 206 (am_lt (am_up I 17 (a1).toNatClampNeg v3) (fun I4 => am_lt (a1 + (1 : Int32)) (fun v5 => k11 v5 I4 L))))))

set_option maxRecDepth 100000 in
set_option maxHeartbeats 4000000 in
theorem tX12_back_b11w {x : am_X} (n d : Nat) (hc : am_ok x cX12_back yX12_back 2 (some .int) (d + 1) 0 0) {r : Int32} {I' : am_I} {L' : am_L} (k11 : Int32 → am_I → am_L → Option (Int32 × am_I × am_L)) (hk11 : ∀ (a1 : Int32) (I : am_I) (L : am_L), k11 a1 I L = some (r, I', L') → am_J x (fun S => S = (some (.int r), KM, RM, I', L')) 11 [some (.ref 0), some (.int a1)] [] KM RM I L 0 0) (a1 : Int32) (I : am_I) (L : am_L) (hf : fX12_back_b11w n d k11 a1 I L = some (r, I', L')) : am_J x (fun S => S = (some (.int r), KM, RM, I', L')) 11 [some (.ref 0), some (.int a1)] [] KM RM I L 0 0 := by
  unfold fX12_back_b11w at hf
  refine j_iload_n hc dX12_back_11 rfl ?_
  refine j_sipush (v := (206 : Int32)) hc dX12_back_12 cs_206 ?_
  refine j_icmp_ge (tgt := 36) hc dX12_back_15 rfl hf (fun hf => ?_) (fun hf => ?_)
  · refine j_aload_n hc dX12_back_36 rfl ?_
    refine j_iconst (v := (0 : Int32)) hc dX12_back_37 ci_0 ?_
    refine j_putI hc dX12_back_38 fpM_X12_262_0 rfl rfl hf (fun I1 hf => ?_)
    refine j_aload_n hc dX12_back_41 rfl ?_
    refine j_getR (u := 17) hc dX12_back_42 fgM_X12_58_0 rM_0_27 ?_
    refine j_bipush (v := (24 : Int32)) hc dX12_back_45 cb_24 ?_
    refine j_iaload (n := 206) hc dX12_back_47 kM_17 hf (fun v2 hf => ?_)
    exact j_ireturn hc dX12_back_48 rfl rfl hf
  · refine j_aload_n hc dX12_back_18 rfl ?_
    refine j_getR (u := 17) hc dX12_back_19 fgM_X12_58_0 rM_0_27 ?_
    refine j_iload_n hc dX12_back_22 rfl ?_
    refine j_aload_n hc dX12_back_23 rfl ?_
    refine j_getR (u := 25) hc dX12_back_24 fgM_X12_88_0 rM_0_42 ?_
    refine j_iload_n hc dX12_back_27 rfl ?_
    refine j_iaload (n := 206) hc dX12_back_28 kM_25 hf (fun v3 hf => ?_)
    refine j_iastore (n := 206) hc dX12_back_29 kM_17 hf (fun I4 hf => ?_)
    refine j_iinc (w := (1 : Int32)) hc dX12_back_30 rfl ci_1 (Nat.le_of_ble_eq_true rfl) hf (fun v5 hf => ?_)
    refine j_goto (tgt := 11) hc dX12_back_33 rfl ?_
    exact j_sub (hk11 _ _ _ hf) (And.intro rfl (And.intro rfl (trivial)))

def fX12_back_b11 (n d : Nat) : Nat → Int32 → am_I → am_L → Option (Int32 × am_I × am_L)
  | 0 => fun _ _ _ => none
  | m + 1 => fX12_back_b11w n d  (fX12_back_b11 n d m)

set_option maxRecDepth 100000 in
theorem tX12_back_b11 {x : am_X} (n d : Nat) (hc : am_ok x cX12_back yX12_back 2 (some .int) (d + 1) 0 0) {r : Int32} {I' : am_I} {L' : am_L} (m : Nat) : ∀ (a1 : Int32) (I : am_I) (L : am_L) (hf : fX12_back_b11 n d m a1 I L = some (r, I', L')), am_J x (fun S => S = (some (.int r), KM, RM, I', L')) 11 [some (.ref 0), some (.int a1)] [] KM RM I L 0 0 := by
  induction m with
  | zero => intro a1 I L hf; exact (Option.some_ne_none _ hf.symm).elim
  | succ m ih => intro a1 I L hf; exact tX12_back_b11w n d hc (fX12_back_b11 n d m) ih a1 I L hf

set_option maxRecDepth 100000 in
def fX12_back (n d : Nat) (I : am_I) (L : am_L) : Option (Int32 × am_I × am_L) :=
  if (I 0 43) = 0 then
    (some ((-1 : Int32), I, L))
    else
    (am_lt (0 : Int32) (fun v1 => fX12_back_b11 n d n v1 I L))

set_option maxRecDepth 100000 in
set_option maxHeartbeats 4000000 in
theorem tX12_back {x : am_X} (n d : Nat) (hc : am_ok x cX12_back yX12_back 2 (some .int) (d + 1) 0 0) {r : Int32} {I' : am_I} {L' : am_L} (I : am_I) (L : am_L) (hf : fX12_back n d I L = some (r, I', L')) : am_J x (fun S => S = (some (.int r), KM, RM, I', L')) 0 [some (.ref 0), none] [] KM RM I L 0 0 := by
  unfold fX12_back at hf
  refine j_aload_n hc dX12_back_0 rfl ?_
  refine j_getI hc dX12_back_1 fgM_X12_265_0 ?_
  refine j_if_ne (tgt := 9) hc dX12_back_4 rfl hf (fun hf => ?_) (fun hf => ?_)
  · refine j_iconst (v := (0 : Int32)) hc dX12_back_9 ci_0 ?_
    refine j_istore_n hc dX12_back_10 (Nat.le_of_ble_eq_true rfl) hf (fun v1 hf => ?_)
    exact j_sub (tX12_back_b11 n d hc n _ _ _ hf) (And.intro rfl (And.intro rfl (trivial)))
  · refine j_iconst (v := (-1 : Int32)) hc dX12_back_7 ci_m1 ?_
    exact j_ireturn hc dX12_back_8 rfl rfl hf

set_option maxRecDepth 100000 in
theorem qX12_back (l : Launch) (n d : Nat) (I : am_I) (L : am_L) (r : Int32) (I' : am_I) (L' : am_L) (hf : fX12_back n d I L = some (r, I', L')) : am_C l yX12_back cX12_back 2 (some .int) (d + 1) [.ref 0] KM RM I L (some (.int r)) I' L' := by
  exact am_intro (plainFor_of_name plX12) (fun _ _ => trivial) (Nat.le_of_ble_eq_true rfl) (fun x hl hc => by subst hl; exact j_sub (tX12_back n d hc  _ _ hf) (And.intro rfl (trivial)))
set_option maxRecDepth 100000 in
def fX12_count (n d : Nat) (a1 : Int32) (I : am_I) (L : am_L) : Option (Int32 × am_I × am_L) :=
  am_sw a1 0 [some ((I 0 25), I, L), some ((I 0 26), I, L), some ((I 0 13), I, L), some ((I 0 2), I, L), some ((I 0 28), I, L), am_ck (24 : Int32) 206 (am_lt (I 17 ((24 : Int32)).toNatClampNeg) (fun v1 => some (v1, I, L))), am_ck (0 : Int32) 2 (am_lt (I 16 ((0 : Int32)).toNatClampNeg) (fun v2 => some (v2, I, L))), am_ck (1 : Int32) 2 (am_lt (I 16 ((1 : Int32)).toNatClampNeg) (fun v3 => some (v3, I, L))), am_b3 (fX12_atHome n d I L) (fun v4 I4 L4 => some (v4, I4, L4)), some ((I 0 39), I, L), am_ck (25 : Int32) 206 (am_lt (I 17 ((25 : Int32)).toNatClampNeg) (fun v5 => some (v5, I, L))), some ((I 0 30), I, L)] (some ((-1000000 : Int32), I, L))

set_option maxRecDepth 100000 in
set_option maxHeartbeats 4000000 in
theorem tX12_count {x : am_X} (n d : Nat) (hc : am_ok x cX12_count yX12_count 2 (some .int) (d + 9) 0 0) {r : Int32} {I' : am_I} {L' : am_L} (a1 : Int32) (I : am_I) (L : am_L) (hf : fX12_count n d a1 I L = some (r, I', L')) : am_J x (fun S => S = (some (.int r), KM, RM, I', L')) 0 [some (.ref 0), some (.int a1)] [] KM RM I L 0 0 := by
  unfold fX12_count at hf
  refine j_iload_n hc dX12_count_0 rfl ?_
  refine j_tab (lo := 0) (tgt := 134) hc dX12_count_1 rfl rfl rfl hf (fun hf => ?_) (fun k K off tgt2 hK ho ht hf => ?_) (fun k off ho => ?_)
  · refine j_ldcw (v := (-1000000 : Int32)) hc dX12_count_134 kw_1917 ?_
    exact j_ireturn hc dX12_count_137 rfl rfl hf
  · match k, hK, ho with
    | 0, hK, ho =>
      cases hK
      have ho : (63 : Int) = off := Option.some.inj ho
      subst ho
      have ht : tgt2 = 64 := by omega
      subst ht
      refine j_aload_n hc dX12_count_64 rfl ?_
      refine j_getI hc dX12_count_65 fgM_X12_250_0 ?_
      exact j_ireturn hc dX12_count_68 rfl rfl hf
    | 1, hK, ho =>
      cases hK
      have ho : (68 : Int) = off := Option.some.inj ho
      subst ho
      have ht : tgt2 = 69 := by omega
      subst ht
      refine j_aload_n hc dX12_count_69 rfl ?_
      refine j_getI hc dX12_count_70 fgM_X12_253_0 ?_
      exact j_ireturn hc dX12_count_73 rfl rfl hf
    | 2, hK, ho =>
      cases hK
      have ho : (73 : Int) = off := Option.some.inj ho
      subst ho
      have ht : tgt2 = 74 := by omega
      subst ht
      refine j_aload_n hc dX12_count_74 rfl ?_
      refine j_getI hc dX12_count_75 fgM_X12_272_0 ?_
      exact j_ireturn hc dX12_count_78 rfl rfl hf
    | 3, hK, ho =>
      cases hK
      have ho : (78 : Int) = off := Option.some.inj ho
      subst ho
      have ht : tgt2 = 79 := by omega
      subst ht
      refine j_aload_n hc dX12_count_79 rfl ?_
      refine j_getI hc dX12_count_80 fgM_X12_98_0 ?_
      exact j_ireturn hc dX12_count_83 rfl rfl hf
    | 4, hK, ho =>
      cases hK
      have ho : (83 : Int) = off := Option.some.inj ho
      subst ho
      have ht : tgt2 = 84 := by omega
      subst ht
      refine j_aload_n hc dX12_count_84 rfl ?_
      refine j_getI hc dX12_count_85 fgM_X12_61_0 ?_
      exact j_ireturn hc dX12_count_88 rfl rfl hf
    | 5, hK, ho =>
      cases hK
      have ho : (88 : Int) = off := Option.some.inj ho
      subst ho
      have ht : tgt2 = 89 := by omega
      subst ht
      refine j_aload_n hc dX12_count_89 rfl ?_
      refine j_getR (u := 17) hc dX12_count_90 fgM_X12_58_0 rM_0_27 ?_
      refine j_bipush (v := (24 : Int32)) hc dX12_count_93 cb_24 ?_
      refine j_iaload (n := 206) hc dX12_count_95 kM_17 hf (fun v1 hf => ?_)
      exact j_ireturn hc dX12_count_96 rfl rfl hf
    | 6, hK, ho =>
      cases hK
      have ho : (96 : Int) = off := Option.some.inj ho
      subst ho
      have ht : tgt2 = 97 := by omega
      subst ht
      refine j_aload_n hc dX12_count_97 rfl ?_
      refine j_getR (u := 16) hc dX12_count_98 fgM_X12_55_0 rM_0_24 ?_
      refine j_iconst (v := (0 : Int32)) hc dX12_count_101 ci_0 ?_
      refine j_iaload (n := 2) hc dX12_count_102 kM_16 hf (fun v2 hf => ?_)
      exact j_ireturn hc dX12_count_103 rfl rfl hf
    | 7, hK, ho =>
      cases hK
      have ho : (103 : Int) = off := Option.some.inj ho
      subst ho
      have ht : tgt2 = 104 := by omega
      subst ht
      refine j_aload_n hc dX12_count_104 rfl ?_
      refine j_getR (u := 16) hc dX12_count_105 fgM_X12_55_0 rM_0_24 ?_
      refine j_iconst (v := (1 : Int32)) hc dX12_count_108 ci_1 ?_
      refine j_iaload (n := 2) hc dX12_count_109 kM_16 hf (fun v3 hf => ?_)
      exact j_ireturn hc dX12_count_110 rfl rfl hf
    | 8, hK, ho =>
      cases hK
      have ho : (110 : Int) = off := Option.some.inj ho
      subst ho
      have ht : tgt2 = 111 := by omega
      subst ht
      refine j_aload_n hc dX12_count_111 rfl ?_
      refine j_callVI (t := 0) (As := []) hc dX12_count_112 kw_1822 mX12_atHome kM_0 clX12 rfl (by omega) (Nat.le_of_ble_eq_true rfl) (Nat.le_of_ble_eq_true rfl) ⟨Nat.le_refl _, Nat.le_refl _⟩ hf (fun v I' L' h => qX12_atHome x.2.1 n d I L v I' L' h) (fun v4 I4 L4 hf => ?_)
      exact j_ireturn hc dX12_count_115 rfl rfl hf
    | 9, hK, ho =>
      cases hK
      have ho : (115 : Int) = off := Option.some.inj ho
      subst ho
      have ht : tgt2 = 116 := by omega
      subst ht
      refine j_aload_n hc dX12_count_116 rfl ?_
      refine j_getI hc dX12_count_117 fgM_X12_259_0 ?_
      exact j_ireturn hc dX12_count_120 rfl rfl hf
    | 10, hK, ho =>
      cases hK
      have ho : (120 : Int) = off := Option.some.inj ho
      subst ho
      have ht : tgt2 = 121 := by omega
      subst ht
      refine j_aload_n hc dX12_count_121 rfl ?_
      refine j_getR (u := 17) hc dX12_count_122 fgM_X12_58_0 rM_0_27 ?_
      refine j_bipush (v := (25 : Int32)) hc dX12_count_125 cb_25 ?_
      refine j_iaload (n := 206) hc dX12_count_127 kM_17 hf (fun v5 hf => ?_)
      exact j_ireturn hc dX12_count_128 rfl rfl hf
    | 11, hK, ho =>
      cases hK
      have ho : (128 : Int) = off := Option.some.inj ho
      subst ho
      have ht : tgt2 = 129 := by omega
      subst ht
      refine j_aload_n hc dX12_count_129 rfl ?_
      refine j_getI hc dX12_count_130 fgM_X12_262_0 ?_
      exact j_ireturn hc dX12_count_133 rfl rfl hf
    | k + 12, hK, ho => simp at hK
  · match k, ho with
    | 0, ho => have ho : (63 : Int) = off := Option.some.inj ho; subst ho; exact ⟨64, rfl⟩
    | 1, ho => have ho : (68 : Int) = off := Option.some.inj ho; subst ho; exact ⟨69, rfl⟩
    | 2, ho => have ho : (73 : Int) = off := Option.some.inj ho; subst ho; exact ⟨74, rfl⟩
    | 3, ho => have ho : (78 : Int) = off := Option.some.inj ho; subst ho; exact ⟨79, rfl⟩
    | 4, ho => have ho : (83 : Int) = off := Option.some.inj ho; subst ho; exact ⟨84, rfl⟩
    | 5, ho => have ho : (88 : Int) = off := Option.some.inj ho; subst ho; exact ⟨89, rfl⟩
    | 6, ho => have ho : (96 : Int) = off := Option.some.inj ho; subst ho; exact ⟨97, rfl⟩
    | 7, ho => have ho : (103 : Int) = off := Option.some.inj ho; subst ho; exact ⟨104, rfl⟩
    | 8, ho => have ho : (110 : Int) = off := Option.some.inj ho; subst ho; exact ⟨111, rfl⟩
    | 9, ho => have ho : (115 : Int) = off := Option.some.inj ho; subst ho; exact ⟨116, rfl⟩
    | 10, ho => have ho : (120 : Int) = off := Option.some.inj ho; subst ho; exact ⟨121, rfl⟩
    | 11, ho => have ho : (128 : Int) = off := Option.some.inj ho; subst ho; exact ⟨129, rfl⟩
    | k + 12, ho => simp at ho

set_option maxRecDepth 100000 in
theorem qX12_count (l : Launch) (n d : Nat) (a1 : Int32) (I : am_I) (L : am_L) (r : Int32) (I' : am_I) (L' : am_L) (hf : fX12_count n d a1 I L = some (r, I', L')) : am_C l yX12_count cX12_count 2 (some .int) (d + 9) [.ref 0, .int a1] KM RM I L (some (.int r)) I' L' := by
  exact am_intro (plainFor_of_name plX12) (fun _ _ => trivial) (Nat.le_of_ble_eq_true rfl) (fun x hl hc => by subst hl; exact j_sub (tX12_count n d hc _ _ _ hf) (And.intro rfl (And.intro rfl (trivial))))
