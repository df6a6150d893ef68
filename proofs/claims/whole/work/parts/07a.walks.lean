set_option maxRecDepth 100000 in
def fJ9_min_f86c9 (n d : Nat) (a0 : Int64) (a2 : Int64) (I : am_I) (L : am_L) : Option (Int64 × am_I × am_L) :=
  if (0 : Int32) < (lg_cmp a0 a2) then
    (some (a2, I, L))
    else
    (some (a0, I, L))

set_option maxRecDepth 100000 in
set_option maxHeartbeats 4000000 in
theorem tJ9_min_f86c9 {x : am_X} {ks : List am_k} {R : am_R} (n d : Nat) (hc : am_ok x cJ9_min_f86c9 yJ9_min_f86c9 4 (some .long) (d + 1) 0 0) {r : Int64} {I' : am_I} {L' : am_L} (a0 : Int64) (a2 : Int64) (I : am_I) (L : am_L) (hf : fJ9_min_f86c9 n d a0 a2 I L = some (r, I', L')) : am_J x (fun S => S = (some (.long r), ks, R, I', L')) 0 [some (.long a0), none, some (.long a2), none] [] ks R I L 0 0 := by
  unfold fJ9_min_f86c9 at hf
  refine j_lload_n hc dJ9_min_f86c9_0 rfl ?_
  refine j_lload_n hc dJ9_min_f86c9_1 rfl ?_
  refine j_lcmp hc dJ9_min_f86c9_2 ?_
  refine j_if_gt (tgt := 10) hc dJ9_min_f86c9_3 rfl hf (fun hf => ?_) (fun hf => ?_)
  · refine j_lload_n hc dJ9_min_f86c9_10 rfl ?_
    exact j_lreturn hc dJ9_min_f86c9_11 rfl rfl hf
  · refine j_lload_n hc dJ9_min_f86c9_6 rfl ?_
    refine j_goto (tgt := 11) hc dJ9_min_f86c9_7 rfl ?_
    exact j_lreturn hc dJ9_min_f86c9_11 rfl rfl hf

set_option maxRecDepth 100000 in
theorem qJ9_min_f86c9 (l : Launch) {ks : List am_k} {R : am_R} (n d : Nat) (a0 : Int64) (a2 : Int64) (I : am_I) (L : am_L) (r : Int64) (I' : am_I) (L' : am_L) (hf : fJ9_min_f86c9 n d a0 a2 I L = some (r, I', L')) : am_C l yJ9_min_f86c9 cJ9_min_f86c9 4 (some .long) (d + 1) [.long a0, .long a2] ks R I L (some (.long r)) I' L' := by
  exact am_intro (pfJ9_min_f86c9) (fun _ _ => trivial) (Nat.le_of_ble_eq_true rfl) (fun x hl hc => by subst hl; exact j_sub (tJ9_min_f86c9 n d hc _ _ _ _ hf) (And.intro rfl (And.intro rfl (trivial))))
set_option maxRecDepth 100000 in
def fJ9_max_f86c9 (n d : Nat) (a0 : Int64) (a2 : Int64) (I : am_I) (L : am_L) : Option (Int64 × am_I × am_L) :=
  if (lg_cmp a0 a2) < 0 then
    (some (a2, I, L))
    else
    (some (a0, I, L))

set_option maxRecDepth 100000 in
set_option maxHeartbeats 4000000 in
theorem tJ9_max_f86c9 {x : am_X} {ks : List am_k} {R : am_R} (n d : Nat) (hc : am_ok x cJ9_max_f86c9 yJ9_max_f86c9 4 (some .long) (d + 1) 0 0) {r : Int64} {I' : am_I} {L' : am_L} (a0 : Int64) (a2 : Int64) (I : am_I) (L : am_L) (hf : fJ9_max_f86c9 n d a0 a2 I L = some (r, I', L')) : am_J x (fun S => S = (some (.long r), ks, R, I', L')) 0 [some (.long a0), none, some (.long a2), none] [] ks R I L 0 0 := by
  unfold fJ9_max_f86c9 at hf
  refine j_lload_n hc dJ9_max_f86c9_0 rfl ?_
  refine j_lload_n hc dJ9_max_f86c9_1 rfl ?_
  refine j_lcmp hc dJ9_max_f86c9_2 ?_
  refine j_if_lt (tgt := 10) hc dJ9_max_f86c9_3 rfl hf (fun hf => ?_) (fun hf => ?_)
  · refine j_lload_n hc dJ9_max_f86c9_10 rfl ?_
    exact j_lreturn hc dJ9_max_f86c9_11 rfl rfl hf
  · refine j_lload_n hc dJ9_max_f86c9_6 rfl ?_
    refine j_goto (tgt := 11) hc dJ9_max_f86c9_7 rfl ?_
    exact j_lreturn hc dJ9_max_f86c9_11 rfl rfl hf

set_option maxRecDepth 100000 in
theorem qJ9_max_f86c9 (l : Launch) {ks : List am_k} {R : am_R} (n d : Nat) (a0 : Int64) (a2 : Int64) (I : am_I) (L : am_L) (r : Int64) (I' : am_I) (L' : am_L) (hf : fJ9_max_f86c9 n d a0 a2 I L = some (r, I', L')) : am_C l yJ9_max_f86c9 cJ9_max_f86c9 4 (some .long) (d + 1) [.long a0, .long a2] ks R I L (some (.long r)) I' L' := by
  exact am_intro (pfJ9_max_f86c9) (fun _ _ => trivial) (Nat.le_of_ble_eq_true rfl) (fun x hl hc => by subst hl; exact j_sub (tJ9_max_f86c9 n d hc _ _ _ _ hf) (And.intro rfl (And.intro rfl (trivial))))
set_option maxRecDepth 100000 in
def fJ9_max_7cf53 (n d : Nat) (a0 : Int32) (a1 : Int32) (I : am_I) (L : am_L) : Option (Int32 × am_I × am_L) :=
  if a0 < a1 then
    (some (a1, I, L))
    else
    (some (a0, I, L))

set_option maxRecDepth 100000 in
set_option maxHeartbeats 4000000 in
theorem tJ9_max_7cf53 {x : am_X} {ks : List am_k} {R : am_R} (n d : Nat) (hc : am_ok x cJ9_max_7cf53 yJ9_max_7cf53 2 (some .int) (d + 1) 0 0) {r : Int32} {I' : am_I} {L' : am_L} (a0 : Int32) (a1 : Int32) (I : am_I) (L : am_L) (hf : fJ9_max_7cf53 n d a0 a1 I L = some (r, I', L')) : am_J x (fun S => S = (some (.int r), ks, R, I', L')) 0 [some (.int a0), some (.int a1)] [] ks R I L 0 0 := by
  unfold fJ9_max_7cf53 at hf
  refine j_iload_n hc dJ9_max_7cf53_0 rfl ?_
  refine j_iload_n hc dJ9_max_7cf53_1 rfl ?_
  refine j_icmp_lt (tgt := 9) hc dJ9_max_7cf53_2 rfl hf (fun hf => ?_) (fun hf => ?_)
  · refine j_iload_n hc dJ9_max_7cf53_9 rfl ?_
    exact j_ireturn hc dJ9_max_7cf53_10 rfl rfl hf
  · refine j_iload_n hc dJ9_max_7cf53_5 rfl ?_
    refine j_goto (tgt := 10) hc dJ9_max_7cf53_6 rfl ?_
    exact j_ireturn hc dJ9_max_7cf53_10 rfl rfl hf

set_option maxRecDepth 100000 in
theorem qJ9_max_7cf53 (l : Launch) {ks : List am_k} {R : am_R} (n d : Nat) (a0 : Int32) (a1 : Int32) (I : am_I) (L : am_L) (r : Int32) (I' : am_I) (L' : am_L) (hf : fJ9_max_7cf53 n d a0 a1 I L = some (r, I', L')) : am_C l yJ9_max_7cf53 cJ9_max_7cf53 2 (some .int) (d + 1) [.int a0, .int a1] ks R I L (some (.int r)) I' L' := by
  exact am_intro (pfJ9_max_7cf53) (fun _ _ => trivial) (Nat.le_of_ble_eq_true rfl) (fun x hl hc => by subst hl; exact j_sub (tJ9_max_7cf53 n d hc _ _ _ _ hf) (And.intro rfl (And.intro rfl (trivial))))
set_option maxRecDepth 100000 in
def fJ9_abs_0f7a4 (n d : Nat) (a0 : Int32) (I : am_I) (L : am_L) : Option (Int32 × am_I × am_L) :=
  if (0 : Int32) ≤ a0 then
    (some (a0, I, L))
    else
    (some ((-a0), I, L))

set_option maxRecDepth 100000 in
set_option maxHeartbeats 4000000 in
theorem tJ9_abs_0f7a4 {x : am_X} {ks : List am_k} {R : am_R} (n d : Nat) (hc : am_ok x cJ9_abs_0f7a4 yJ9_abs_0f7a4 1 (some .int) (d + 1) 0 0) {r : Int32} {I' : am_I} {L' : am_L} (a0 : Int32) (I : am_I) (L : am_L) (hf : fJ9_abs_0f7a4 n d a0 I L = some (r, I', L')) : am_J x (fun S => S = (some (.int r), ks, R, I', L')) 0 [some (.int a0)] [] ks R I L 0 0 := by
  unfold fJ9_abs_0f7a4 at hf
  refine j_iload_n hc dJ9_abs_0f7a4_0 rfl ?_
  refine j_if_ge (tgt := 9) hc dJ9_abs_0f7a4_1 rfl hf (fun hf => ?_) (fun hf => ?_)
  · refine j_iload_n hc dJ9_abs_0f7a4_9 rfl ?_
    exact j_ireturn hc dJ9_abs_0f7a4_10 rfl rfl hf
  · refine j_iload_n hc dJ9_abs_0f7a4_4 rfl ?_
    refine j_ineg hc dJ9_abs_0f7a4_5 ?_
    refine j_goto (tgt := 10) hc dJ9_abs_0f7a4_6 rfl ?_
    exact j_ireturn hc dJ9_abs_0f7a4_10 rfl rfl hf

set_option maxRecDepth 100000 in
theorem qJ9_abs_0f7a4 (l : Launch) {ks : List am_k} {R : am_R} (n d : Nat) (a0 : Int32) (I : am_I) (L : am_L) (r : Int32) (I' : am_I) (L' : am_L) (hf : fJ9_abs_0f7a4 n d a0 I L = some (r, I', L')) : am_C l yJ9_abs_0f7a4 cJ9_abs_0f7a4 1 (some .int) (d + 1) [.int a0] ks R I L (some (.int r)) I' L' := by
  exact am_intro (pfJ9_abs_0f7a4) (fun _ _ => trivial) (Nat.le_of_ble_eq_true rfl) (fun x hl hc => by subst hl; exact j_sub (tJ9_abs_0f7a4 n d hc _ _ _ hf) (And.intro rfl (trivial)))
set_option maxRecDepth 100000 in
def fJ6_bitCount_0f7a4 (n d : Nat) (a0 : Int32) (I : am_I) (L : am_L) : Option (Int32 × am_I × am_L) :=
  am_lt (a0 - ((a0.toUInt32 >>> ((1 : Int32).toUInt32 &&& Int32.toUInt32 31)).toInt32 &&& (1431655765 : Int32))) (fun v1 => am_lt ((v1 &&& (858993459 : Int32)) + ((v1.toUInt32 >>> ((2 : Int32).toUInt32 &&& Int32.toUInt32 31)).toInt32 &&& (858993459 : Int32))) (fun v2 => am_lt ((v2 + (v2.toUInt32 >>> ((4 : Int32).toUInt32 &&& Int32.toUInt32 31)).toInt32) &&& (252645135 : Int32)) (fun v3 => am_lt (v3 + (v3.toUInt32 >>> ((8 : Int32).toUInt32 &&& Int32.toUInt32 31)).toInt32) (fun v4 => am_lt (v4 + (v4.toUInt32 >>> ((16 : Int32).toUInt32 &&& Int32.toUInt32 31)).toInt32) (fun v5 => some ((v5 &&& (63 : Int32)), I, L))))))

set_option maxRecDepth 100000 in
set_option maxHeartbeats 4000000 in
theorem tJ6_bitCount_0f7a4 {x : am_X} {ks : List am_k} {R : am_R} (n d : Nat) (hc : am_ok x cJ6_bitCount_0f7a4 yJ6_bitCount_0f7a4 1 (some .int) (d + 1) 0 0) {r : Int32} {I' : am_I} {L' : am_L} (a0 : Int32) (I : am_I) (L : am_L) (hf : fJ6_bitCount_0f7a4 n d a0 I L = some (r, I', L')) : am_J x (fun S => S = (some (.int r), ks, R, I', L')) 0 [some (.int a0)] [] ks R I L 0 0 := by
  unfold fJ6_bitCount_0f7a4 at hf
  refine j_iload_n hc dJ6_bitCount_0f7a4_0 rfl ?_
  refine j_iload_n hc dJ6_bitCount_0f7a4_1 rfl ?_
  refine j_iconst (v := (1 : Int32)) hc dJ6_bitCount_0f7a4_2 ci_1 ?_
  refine j_iushr hc dJ6_bitCount_0f7a4_3 ?_
  refine j_ldcw (v := (1431655765 : Int32)) hc dJ6_bitCount_0f7a4_4 kw_1221 ?_
  refine j_iand hc dJ6_bitCount_0f7a4_7 ?_
  refine j_isub hc dJ6_bitCount_0f7a4_8 ?_
  refine j_istore_n hc dJ6_bitCount_0f7a4_9 (Nat.le_of_ble_eq_true rfl) hf (fun v1 hf => ?_)
  refine j_iload_n hc dJ6_bitCount_0f7a4_10 rfl ?_
  refine j_ldcw (v := (858993459 : Int32)) hc dJ6_bitCount_0f7a4_11 kw_1222 ?_
  refine j_iand hc dJ6_bitCount_0f7a4_14 ?_
  refine j_iload_n hc dJ6_bitCount_0f7a4_15 rfl ?_
  refine j_iconst (v := (2 : Int32)) hc dJ6_bitCount_0f7a4_16 ci_2 ?_
  refine j_iushr hc dJ6_bitCount_0f7a4_17 ?_
  refine j_ldcw (v := (858993459 : Int32)) hc dJ6_bitCount_0f7a4_18 kw_1222 ?_
  refine j_iand hc dJ6_bitCount_0f7a4_21 ?_
  refine j_iadd hc dJ6_bitCount_0f7a4_22 ?_
  refine j_istore_n hc dJ6_bitCount_0f7a4_23 (Nat.le_of_ble_eq_true rfl) hf (fun v2 hf => ?_)
  refine j_iload_n hc dJ6_bitCount_0f7a4_24 rfl ?_
  refine j_iload_n hc dJ6_bitCount_0f7a4_25 rfl ?_
  refine j_iconst (v := (4 : Int32)) hc dJ6_bitCount_0f7a4_26 ci_4 ?_
  refine j_iushr hc dJ6_bitCount_0f7a4_27 ?_
  refine j_iadd hc dJ6_bitCount_0f7a4_28 ?_
  refine j_ldcw (v := (252645135 : Int32)) hc dJ6_bitCount_0f7a4_29 kw_1223 ?_
  refine j_iand hc dJ6_bitCount_0f7a4_32 ?_
  refine j_istore_n hc dJ6_bitCount_0f7a4_33 (Nat.le_of_ble_eq_true rfl) hf (fun v3 hf => ?_)
  refine j_iload_n hc dJ6_bitCount_0f7a4_34 rfl ?_
  refine j_iload_n hc dJ6_bitCount_0f7a4_35 rfl ?_
  refine j_bipush (v := (8 : Int32)) hc dJ6_bitCount_0f7a4_36 cb_8 ?_
  refine j_iushr hc dJ6_bitCount_0f7a4_38 ?_
  refine j_iadd hc dJ6_bitCount_0f7a4_39 ?_
  refine j_istore_n hc dJ6_bitCount_0f7a4_40 (Nat.le_of_ble_eq_true rfl) hf (fun v4 hf => ?_)
  refine j_iload_n hc dJ6_bitCount_0f7a4_41 rfl ?_
  refine j_iload_n hc dJ6_bitCount_0f7a4_42 rfl ?_
  refine j_bipush (v := (16 : Int32)) hc dJ6_bitCount_0f7a4_43 cb_16 ?_
  refine j_iushr hc dJ6_bitCount_0f7a4_45 ?_
  refine j_iadd hc dJ6_bitCount_0f7a4_46 ?_
  refine j_istore_n hc dJ6_bitCount_0f7a4_47 (Nat.le_of_ble_eq_true rfl) hf (fun v5 hf => ?_)
  refine j_iload_n hc dJ6_bitCount_0f7a4_48 rfl ?_
  refine j_bipush (v := (63 : Int32)) hc dJ6_bitCount_0f7a4_49 cb_63 ?_
  refine j_iand hc dJ6_bitCount_0f7a4_51 ?_
  exact j_ireturn hc dJ6_bitCount_0f7a4_52 rfl rfl hf

set_option maxRecDepth 100000 in
theorem qJ6_bitCount_0f7a4 (l : Launch) {ks : List am_k} {R : am_R} (n d : Nat) (a0 : Int32) (I : am_I) (L : am_L) (r : Int32) (I' : am_I) (L' : am_L) (hf : fJ6_bitCount_0f7a4 n d a0 I L = some (r, I', L')) : am_C l yJ6_bitCount_0f7a4 cJ6_bitCount_0f7a4 1 (some .int) (d + 1) [.int a0] ks R I L (some (.int r)) I' L' := by
  exact am_intro (pfJ6_bitCount_0f7a4) (fun _ _ => trivial) (Nat.le_of_ble_eq_true rfl) (fun x hl hc => by subst hl; exact j_sub (tJ6_bitCount_0f7a4 n d hc _ _ _ hf) (And.intro rfl (trivial)))
set_option maxRecDepth 100000 in
def fJ9_min_7cf53 (n d : Nat) (a0 : Int32) (a1 : Int32) (I : am_I) (L : am_L) : Option (Int32 × am_I × am_L) :=
  if a1 < a0 then
    (some (a1, I, L))
    else
    (some (a0, I, L))

set_option maxRecDepth 100000 in
set_option maxHeartbeats 4000000 in
theorem tJ9_min_7cf53 {x : am_X} {ks : List am_k} {R : am_R} (n d : Nat) (hc : am_ok x cJ9_min_7cf53 yJ9_min_7cf53 2 (some .int) (d + 1) 0 0) {r : Int32} {I' : am_I} {L' : am_L} (a0 : Int32) (a1 : Int32) (I : am_I) (L : am_L) (hf : fJ9_min_7cf53 n d a0 a1 I L = some (r, I', L')) : am_J x (fun S => S = (some (.int r), ks, R, I', L')) 0 [some (.int a0), some (.int a1)] [] ks R I L 0 0 := by
  unfold fJ9_min_7cf53 at hf
  refine j_iload_n hc dJ9_min_7cf53_0 rfl ?_
  refine j_iload_n hc dJ9_min_7cf53_1 rfl ?_
  refine j_icmp_gt (tgt := 9) hc dJ9_min_7cf53_2 rfl hf (fun hf => ?_) (fun hf => ?_)
  · refine j_iload_n hc dJ9_min_7cf53_9 rfl ?_
    exact j_ireturn hc dJ9_min_7cf53_10 rfl rfl hf
  · refine j_iload_n hc dJ9_min_7cf53_5 rfl ?_
    refine j_goto (tgt := 10) hc dJ9_min_7cf53_6 rfl ?_
    exact j_ireturn hc dJ9_min_7cf53_10 rfl rfl hf

set_option maxRecDepth 100000 in
theorem qJ9_min_7cf53 (l : Launch) {ks : List am_k} {R : am_R} (n d : Nat) (a0 : Int32) (a1 : Int32) (I : am_I) (L : am_L) (r : Int32) (I' : am_I) (L' : am_L) (hf : fJ9_min_7cf53 n d a0 a1 I L = some (r, I', L')) : am_C l yJ9_min_7cf53 cJ9_min_7cf53 2 (some .int) (d + 1) [.int a0, .int a1] ks R I L (some (.int r)) I' L' := by
  exact am_intro (pfJ9_min_7cf53) (fun _ _ => trivial) (Nat.le_of_ble_eq_true rfl) (fun x hl hc => by subst hl; exact j_sub (tJ9_min_7cf53 n d hc _ _ _ _ hf) (And.intro rfl (And.intro rfl (trivial))))
set_option maxRecDepth 100000 in
def fJ1_canEncode_9a6ad (n d : Nat) (a0 : Int32) (I : am_I) (L : am_L) : Option (Int32 × am_I × am_L) :=
  if a0 < 0 then
    (some ((0 : Int32), I, L))
    else
    (if (255 : Int32) < a0 then
      (some ((0 : Int32), I, L))
      else
      (some ((1 : Int32), I, L)))

set_option maxRecDepth 100000 in
set_option maxHeartbeats 4000000 in
theorem tJ1_canEncode_9a6ad {x : am_X} {ks : List am_k} {R : am_R} (n d : Nat) (hc : am_ok x cJ1_canEncode_9a6ad yJ1_canEncode_9a6ad 1 (some .boolean) (d + 1) 0 0) {r : Int32} {I' : am_I} {L' : am_L} (a0 : Int32) (I : am_I) (L : am_L) (hf : fJ1_canEncode_9a6ad n d a0 I L = some (r, I', L')) : am_J x (fun S => S = (some (.int r), ks, R, I', L')) 0 [some (.int a0)] [] ks R I L 0 0 := by
  unfold fJ1_canEncode_9a6ad at hf
  refine j_iload_n hc dJ1_canEncode_9a6ad_0 rfl ?_
  refine j_if_lt (tgt := 15) hc dJ1_canEncode_9a6ad_1 rfl hf (fun hf => ?_) (fun hf => ?_)
  · refine j_iconst (v := (0 : Int32)) hc dJ1_canEncode_9a6ad_15 ci_0 ?_
    exact j_zret hc dJ1_canEncode_9a6ad_16 rfl rfl (Or.inl rfl) hf
  · refine j_iload_n hc dJ1_canEncode_9a6ad_4 rfl ?_
    refine j_sipush (v := (255 : Int32)) hc dJ1_canEncode_9a6ad_5 cs_255 ?_
    refine j_icmp_gt (tgt := 15) hc dJ1_canEncode_9a6ad_8 rfl hf (fun hf => ?_) (fun hf => ?_)
    · refine j_iconst (v := (0 : Int32)) hc dJ1_canEncode_9a6ad_15 ci_0 ?_
      exact j_zret hc dJ1_canEncode_9a6ad_16 rfl rfl (Or.inl rfl) hf
    · refine j_iconst (v := (1 : Int32)) hc dJ1_canEncode_9a6ad_11 ci_1 ?_
      refine j_goto (tgt := 16) hc dJ1_canEncode_9a6ad_12 rfl ?_
      exact j_zret hc dJ1_canEncode_9a6ad_16 rfl rfl (Or.inr rfl) hf

set_option maxRecDepth 100000 in
theorem qJ1_canEncode_9a6ad (l : Launch) {ks : List am_k} {R : am_R} (n d : Nat) (a0 : Int32) (I : am_I) (L : am_L) (r : Int32) (I' : am_I) (L' : am_L) (hf : fJ1_canEncode_9a6ad n d a0 I L = some (r, I', L')) : am_C l yJ1_canEncode_9a6ad cJ1_canEncode_9a6ad 1 (some .boolean) (d + 1) [.int a0] ks R I L (some (.int r)) I' L' := by
  exact am_intro (pfJ1_canEncode_9a6ad) (fun _ _ => trivial) (Nat.le_of_ble_eq_true rfl) (fun x hl hc => by subst hl; exact j_sub (tJ1_canEncode_9a6ad n d hc _ _ _ hf) (And.intro rfl (trivial)))
set_option maxRecDepth 100000 in
def fJ9_floorMod_7cf53 (n d : Nat) (a0 : Int32) (a1 : Int32) (I : am_I) (L : am_L) : Option (Int32 × am_I × am_L) :=
  (if a1 = 0 then none else am_lt (a0 - a0 / a1 * a1) (fun v1 => if (0 : Int32) ≤ (a0 ^^^ a1) then
    (some (v1, I, L))
    else
    (if v1 = 0 then
      (some (v1, I, L))
      else
      (some ((v1 + a1), I, L)))))

set_option maxRecDepth 100000 in
set_option maxHeartbeats 4000000 in
theorem tJ9_floorMod_7cf53 {x : am_X} {ks : List am_k} {R : am_R} (n d : Nat) (hc : am_ok x cJ9_floorMod_7cf53 yJ9_floorMod_7cf53 3 (some .int) (d + 1) 0 0) {r : Int32} {I' : am_I} {L' : am_L} (a0 : Int32) (a1 : Int32) (I : am_I) (L : am_L) (hf : fJ9_floorMod_7cf53 n d a0 a1 I L = some (r, I', L')) : am_J x (fun S => S = (some (.int r), ks, R, I', L')) 0 [some (.int a0), some (.int a1), none] [] ks R I L 0 0 := by
  unfold fJ9_floorMod_7cf53 at hf
  refine j_iload_n hc dJ9_floorMod_7cf53_0 rfl ?_
  refine j_iload_n hc dJ9_floorMod_7cf53_1 rfl ?_
  refine j_irem hc dJ9_floorMod_7cf53_2 hf (fun hf => ?_)
  refine j_istore_n hc dJ9_floorMod_7cf53_3 (Nat.le_of_ble_eq_true rfl) hf (fun v1 hf => ?_)
  refine j_iload_n hc dJ9_floorMod_7cf53_4 rfl ?_
  refine j_iload_n hc dJ9_floorMod_7cf53_5 rfl ?_
  refine j_ixor hc dJ9_floorMod_7cf53_6 ?_
  refine j_if_ge (tgt := 18) hc dJ9_floorMod_7cf53_7 rfl hf (fun hf => ?_) (fun hf => ?_)
  · refine j_iload_n hc dJ9_floorMod_7cf53_18 rfl ?_
    exact j_ireturn hc dJ9_floorMod_7cf53_19 rfl rfl hf
  · refine j_iload_n hc dJ9_floorMod_7cf53_10 rfl ?_
    refine j_if_eq (tgt := 18) hc dJ9_floorMod_7cf53_11 rfl hf (fun hf => ?_) (fun hf => ?_)
    · refine j_iload_n hc dJ9_floorMod_7cf53_18 rfl ?_
      exact j_ireturn hc dJ9_floorMod_7cf53_19 rfl rfl hf
    · refine j_iload_n hc dJ9_floorMod_7cf53_14 rfl ?_
      refine j_iload_n hc dJ9_floorMod_7cf53_15 rfl ?_
      refine j_iadd hc dJ9_floorMod_7cf53_16 ?_
      exact j_ireturn hc dJ9_floorMod_7cf53_17 rfl rfl hf

set_option maxRecDepth 100000 in
theorem qJ9_floorMod_7cf53 (l : Launch) {ks : List am_k} {R : am_R} (n d : Nat) (a0 : Int32) (a1 : Int32) (I : am_I) (L : am_L) (r : Int32) (I' : am_I) (L' : am_L) (hf : fJ9_floorMod_7cf53 n d a0 a1 I L = some (r, I', L')) : am_C l yJ9_floorMod_7cf53 cJ9_floorMod_7cf53 3 (some .int) (d + 1) [.int a0, .int a1] ks R I L (some (.int r)) I' L' := by
  exact am_intro (pfJ9_floorMod_7cf53) (fun _ _ => trivial) (Nat.le_of_ble_eq_true rfl) (fun x hl hc => by subst hl; exact j_sub (tJ9_floorMod_7cf53 n d hc _ _ _ _ hf) (And.intro rfl (And.intro rfl (trivial))))
