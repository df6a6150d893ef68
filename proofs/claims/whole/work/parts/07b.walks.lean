set_option maxRecDepth 100000 in
def fX12_byteOf_b45 (n d : Nat) (s0 : Int32) (a5 : Int32) (I : am_I) (L : am_L) : Option (Int32 × am_I × am_L) :=
  am_lt s0 (fun v1 => (if (4 : Int32) = 0 then none else some (((v1 >>> (((24 : Int32) - ((8 : Int32) * (a5 - a5 / (4 : Int32) * (4 : Int32)))) &&& 31)) &&& (255 : Int32)), I, L)))

set_option maxRecDepth 100000 in
set_option maxHeartbeats 4000000 in
theorem tX12_byteOf_b45 {x : am_X} (n d : Nat) (hc : am_ok x cX12_byteOf yX12_byteOf 7 (some .int) (d + 1) 0 0) {r : Int32} {I' : am_I} {L' : am_L} (s0 : Int32) (a5 : Int32) (I : am_I) (L : am_L) (hf : fX12_byteOf_b45 n d s0 a5 I L = some (r, I', L')) : am_J x (fun S => S = (some (.int r), KM, RM, I', L')) 45 [none, none, none, none, none, some (.int a5), none] [.int s0] KM RM I L 0 0 := by
  unfold fX12_byteOf_b45 at hf
  refine j_istore hc dX12_byteOf_45 (Nat.le_of_ble_eq_true rfl) hf (fun v1 hf => ?_)
  refine j_iload hc dX12_byteOf_47 rfl ?_
  refine j_bipush (v := (24 : Int32)) hc dX12_byteOf_49 cb_24 ?_
  refine j_bipush (v := (8 : Int32)) hc dX12_byteOf_51 cb_8 ?_
  refine j_iload hc dX12_byteOf_53 rfl ?_
  refine j_iconst (v := (4 : Int32)) hc dX12_byteOf_55 ci_4 ?_
  refine j_irem hc dX12_byteOf_56 hf (fun hf => ?_)
  refine j_imul hc dX12_byteOf_57 ?_
  refine j_isub hc dX12_byteOf_58 ?_
  refine j_ishr hc dX12_byteOf_59 ?_
  refine j_sipush (v := (255 : Int32)) hc dX12_byteOf_60 cs_255 ?_
  refine j_iand hc dX12_byteOf_63 ?_
  exact j_ireturn hc dX12_byteOf_64 rfl rfl hf

set_option maxRecDepth 100000 in
def fX12_byteOf (n d : Nat) (a0 : Int32) (a1 : Int32) (a2 : Int32) (a3 : Int32) (a4 : Int32) (a5 : Int32) (I : am_I) (L : am_L) : Option (Int32 × am_I × am_L) :=
  if (4 : Int32) ≤ a5 then
    (if (8 : Int32) ≤ a5 then
      (if (12 : Int32) ≤ a5 then
        (if (16 : Int32) ≤ a5 then
          (fX12_byteOf_b45 n d a4 a5 I L)
          else
          (fX12_byteOf_b45 n d a3 a5 I L))
        else
        (fX12_byteOf_b45 n d a2 a5 I L))
      else
      (fX12_byteOf_b45 n d a1 a5 I L))
    else
    (fX12_byteOf_b45 n d a0 a5 I L)

set_option maxRecDepth 100000 in
set_option maxHeartbeats 4000000 in
theorem tX12_byteOf {x : am_X} (n d : Nat) (hc : am_ok x cX12_byteOf yX12_byteOf 7 (some .int) (d + 1) 0 0) {r : Int32} {I' : am_I} {L' : am_L} (a0 : Int32) (a1 : Int32) (a2 : Int32) (a3 : Int32) (a4 : Int32) (a5 : Int32) (I : am_I) (L : am_L) (hf : fX12_byteOf n d a0 a1 a2 a3 a4 a5 I L = some (r, I', L')) : am_J x (fun S => S = (some (.int r), KM, RM, I', L')) 0 [some (.int a0), some (.int a1), some (.int a2), some (.int a3), some (.int a4), some (.int a5), none] [] KM RM I L 0 0 := by
  unfold fX12_byteOf at hf
  refine j_iload hc dX12_byteOf_0 rfl ?_
  refine j_iconst (v := (4 : Int32)) hc dX12_byteOf_2 ci_4 ?_
  refine j_icmp_ge (tgt := 10) hc dX12_byteOf_3 rfl hf (fun hf => ?_) (fun hf => ?_)
  · refine j_iload hc dX12_byteOf_10 rfl ?_
    refine j_bipush (v := (8 : Int32)) hc dX12_byteOf_12 cb_8 ?_
    refine j_icmp_ge (tgt := 21) hc dX12_byteOf_14 rfl hf (fun hf => ?_) (fun hf => ?_)
    · refine j_iload hc dX12_byteOf_21 rfl ?_
      refine j_bipush (v := (12 : Int32)) hc dX12_byteOf_23 cb_12 ?_
      refine j_icmp_ge (tgt := 32) hc dX12_byteOf_25 rfl hf (fun hf => ?_) (fun hf => ?_)
      · refine j_iload hc dX12_byteOf_32 rfl ?_
        refine j_bipush (v := (16 : Int32)) hc dX12_byteOf_34 cb_16 ?_
        refine j_icmp_ge (tgt := 43) hc dX12_byteOf_36 rfl hf (fun hf => ?_) (fun hf => ?_)
        · refine j_iload hc dX12_byteOf_43 rfl ?_
          exact j_sub (tX12_byteOf_b45 n d hc _ _ _ _ hf) (And.intro rfl (trivial))
        · refine j_iload_n hc dX12_byteOf_39 rfl ?_
          refine j_goto (tgt := 45) hc dX12_byteOf_40 rfl ?_
          exact j_sub (tX12_byteOf_b45 n d hc _ _ _ _ hf) (And.intro rfl (trivial))
      · refine j_iload_n hc dX12_byteOf_28 rfl ?_
        refine j_goto (tgt := 45) hc dX12_byteOf_29 rfl ?_
        exact j_sub (tX12_byteOf_b45 n d hc _ _ _ _ hf) (And.intro rfl (trivial))
    · refine j_iload_n hc dX12_byteOf_17 rfl ?_
      refine j_goto (tgt := 45) hc dX12_byteOf_18 rfl ?_
      exact j_sub (tX12_byteOf_b45 n d hc _ _ _ _ hf) (And.intro rfl (trivial))
  · refine j_iload_n hc dX12_byteOf_6 rfl ?_
    refine j_goto (tgt := 45) hc dX12_byteOf_7 rfl ?_
    exact j_sub (tX12_byteOf_b45 n d hc _ _ _ _ hf) (And.intro rfl (trivial))

set_option maxRecDepth 100000 in
theorem qX12_byteOf (l : Launch) (n d : Nat) (a0 : Int32) (a1 : Int32) (a2 : Int32) (a3 : Int32) (a4 : Int32) (a5 : Int32) (I : am_I) (L : am_L) (r : Int32) (I' : am_I) (L' : am_L) (hf : fX12_byteOf n d a0 a1 a2 a3 a4 a5 I L = some (r, I', L')) : am_C l yX12_byteOf cX12_byteOf 7 (some .int) (d + 1) [.int a0, .int a1, .int a2, .int a3, .int a4, .int a5] KM RM I L (some (.int r)) I' L' := by
  exact am_intro (plainFor_of_name plX12) (fun _ _ => trivial) (Nat.le_of_ble_eq_true rfl) (fun x hl hc => by subst hl; exact j_sub (tX12_byteOf n d hc _ _ _ _ _ _ _ _ hf) (And.intro rfl (And.intro rfl (And.intro rfl (And.intro rfl (And.intro rfl (And.intro rfl (trivial))))))))
set_option maxRecDepth 100000 in
def fX12_feed_b109 (n d : Nat) (k62 : Int32 → Int32 → Int32 → Int32 → Int32 → Int32 → am_I → am_L → Option (Int32 × am_I × am_L)) (a1 : Int32) (a2 : Int32) (a3 : Int32) (a4 : Int32) (a5 : Int32) (a7 : Int32) (I : am_I) (L : am_L) : Option (Int32 × am_I × am_L) :=
  am_lt (a7 + (1 : Int32)) (fun v1 => k62 a1 a2 a3 a4 a5 v1 I L)

set_option maxRecDepth 100000 in
set_option maxHeartbeats 4000000 in
theorem tX12_feed_b109 {x : am_X} (n d : Nat) (hc : am_ok x cX12_feed yX12_feed 9 (some .int) (d + 2) 0 0) {r : Int32} {I' : am_I} {L' : am_L} (k62 : Int32 → Int32 → Int32 → Int32 → Int32 → Int32 → am_I → am_L → Option (Int32 × am_I × am_L)) (hk62 : ∀ (a1 : Int32) (a2 : Int32) (a3 : Int32) (a4 : Int32) (a5 : Int32) (a7 : Int32) (I : am_I) (L : am_L), k62 a1 a2 a3 a4 a5 a7 I L = some (r, I', L') → am_J x (fun S => S = (some (.int r), KM, RM, I', L')) 62 [some (.ref 0), some (.int a1), some (.int a2), some (.int a3), some (.int a4), some (.int a5), none, some (.int a7), none] [] KM RM I L 0 0) (a1 : Int32) (a2 : Int32) (a3 : Int32) (a4 : Int32) (a5 : Int32) (a7 : Int32) (I : am_I) (L : am_L) (hf : fX12_feed_b109 n d k62 a1 a2 a3 a4 a5 a7 I L = some (r, I', L')) : am_J x (fun S => S = (some (.int r), KM, RM, I', L')) 109 [some (.ref 0), some (.int a1), some (.int a2), some (.int a3), some (.int a4), some (.int a5), none, some (.int a7), none] [] KM RM I L 0 0 := by
  unfold fX12_feed_b109 at hf
  refine j_iinc (w := (1 : Int32)) hc dX12_feed_109 rfl ci_1 (Nat.le_of_ble_eq_true rfl) hf (fun v1 hf => ?_)
  refine j_goto (tgt := 62) hc dX12_feed_112 rfl ?_
  exact j_sub (hk62 _ _ _ _ _ _ _ _ hf) (And.intro rfl (And.intro rfl (And.intro rfl (And.intro rfl (And.intro rfl (And.intro rfl (And.intro rfl (trivial))))))))

set_option maxRecDepth 100000 in
def fX12_feed_b62w (n d : Nat) (k62 : Int32 → Int32 → Int32 → Int32 → Int32 → Int32 → am_I → am_L → Option (Int32 × am_I × am_L)) (a1 : Int32) (a2 : Int32) (a3 : Int32) (a4 : Int32) (a5 : Int32) (a7 : Int32) (I : am_I) (L : am_L) : Option (Int32 × am_I × am_L) :=
  if (20 : Int32) ≤ a7 then
    (some ((I 0 2), I, L))
    else
    (am_b3 (fX12_byteOf n d a1 a2 a3 a4 a5 a7 I L) (fun v1 I1 L1 => am_lt v1 (fun v2 => if v2 = 0 then
      (fX12_feed_b109 n d k62 a1 a2 a3 a4 a5 a7 I1 L1)
      else
      (am_ck (I1 0 2) 240 (am_lt (am_up I1 1 ((I1 0 2)).toNatClampNeg v2) (fun I3 => am_lt (am_up I3 0 2 ((I3 0 2) + (1 : Int32))) (fun I4 => fX12_feed_b109 n d k62 a1 a2 a3 a4 a5 a7 I4 L1)))))))

set_option maxRecDepth 100000 in
set_option maxHeartbeats 4000000 in
theorem tX12_feed_b62w {x : am_X} (n d : Nat) (hc : am_ok x cX12_feed yX12_feed 9 (some .int) (d + 2) 0 0) {r : Int32} {I' : am_I} {L' : am_L} (k62 : Int32 → Int32 → Int32 → Int32 → Int32 → Int32 → am_I → am_L → Option (Int32 × am_I × am_L)) (hk62 : ∀ (a1 : Int32) (a2 : Int32) (a3 : Int32) (a4 : Int32) (a5 : Int32) (a7 : Int32) (I : am_I) (L : am_L), k62 a1 a2 a3 a4 a5 a7 I L = some (r, I', L') → am_J x (fun S => S = (some (.int r), KM, RM, I', L')) 62 [some (.ref 0), some (.int a1), some (.int a2), some (.int a3), some (.int a4), some (.int a5), none, some (.int a7), none] [] KM RM I L 0 0) (a1 : Int32) (a2 : Int32) (a3 : Int32) (a4 : Int32) (a5 : Int32) (a7 : Int32) (I : am_I) (L : am_L) (hf : fX12_feed_b62w n d k62 a1 a2 a3 a4 a5 a7 I L = some (r, I', L')) : am_J x (fun S => S = (some (.int r), KM, RM, I', L')) 62 [some (.ref 0), some (.int a1), some (.int a2), some (.int a3), some (.int a4), some (.int a5), none, some (.int a7), none] [] KM RM I L 0 0 := by
  unfold fX12_feed_b62w at hf
  refine j_iload hc dX12_feed_62 rfl ?_
  refine j_bipush (v := (20 : Int32)) hc dX12_feed_64 cb_20 ?_
  refine j_icmp_ge (tgt := 115) hc dX12_feed_66 rfl hf (fun hf => ?_) (fun hf => ?_)
  · refine j_aload_n hc dX12_feed_115 rfl ?_
    refine j_getI hc dX12_feed_116 fgM_X12_98_0 ?_
    exact j_ireturn hc dX12_feed_119 rfl rfl hf
  · refine j_iload_n hc dX12_feed_69 rfl ?_
    refine j_iload_n hc dX12_feed_70 rfl ?_
    refine j_iload_n hc dX12_feed_71 rfl ?_
    refine j_iload hc dX12_feed_72 rfl ?_
    refine j_iload hc dX12_feed_74 rfl ?_
    refine j_iload hc dX12_feed_76 rfl ?_
    refine j_callSI (As := [.int a1, .int a2, .int a3, .int a4, .int a5, .int a7]) hc dX12_feed_78 kw_1618 mX12_byteOf  rfl (by omega) (Nat.le_of_ble_eq_true rfl) (Nat.le_of_ble_eq_true rfl) ⟨Nat.le_refl _, Nat.le_refl _⟩ hf (fun v I' L' h => qX12_byteOf x.2.1 n d a1 a2 a3 a4 a5 a7 I L v I' L' h) (fun v1 I1 L1 hf => ?_)
    refine j_istore hc dX12_feed_81 (Nat.le_of_ble_eq_true rfl) hf (fun v2 hf => ?_)
    refine j_iload hc dX12_feed_83 rfl ?_
    refine j_if_eq (tgt := 109) hc dX12_feed_85 rfl hf (fun hf => ?_) (fun hf => ?_)
    · exact j_sub (tX12_feed_b109 n d hc k62 hk62 _ _ _ _ _ _ _ _ hf) (And.intro rfl (And.intro rfl (And.intro rfl (And.intro rfl (And.intro rfl (And.intro rfl (And.intro rfl (trivial))))))))
    · refine j_aload_n hc dX12_feed_88 rfl ?_
      refine j_getR (u := 1) hc dX12_feed_89 fgM_X12_9_0 rM_0_1 ?_
      refine j_aload_n hc dX12_feed_92 rfl ?_
      refine j_getI hc dX12_feed_93 fgM_X12_98_0 ?_
      refine j_iload hc dX12_feed_96 rfl ?_
      refine j_iastore (n := 240) hc dX12_feed_98 kM_1 hf (fun I3 hf => ?_)
      refine j_aload_n hc dX12_feed_99 rfl ?_
      refine j_dup hc dX12_feed_100 rfl ?_
      refine j_getI hc dX12_feed_101 fgM_X12_98_0 ?_
      refine j_iconst (v := (1 : Int32)) hc dX12_feed_104 ci_1 ?_
      refine j_iadd hc dX12_feed_105 ?_
      refine j_putI hc dX12_feed_106 fpM_X12_98_0 rfl rfl hf (fun I4 hf => ?_)
      exact j_sub (tX12_feed_b109 n d hc k62 hk62 _ _ _ _ _ _ _ _ hf) (And.intro rfl (And.intro rfl (And.intro rfl (And.intro rfl (And.intro rfl (And.intro rfl (And.intro rfl (trivial))))))))

def fX12_feed_b62 (n d : Nat) : Nat → Int32 → Int32 → Int32 → Int32 → Int32 → Int32 → am_I → am_L → Option (Int32 × am_I × am_L)
  | 0 => fun _ _ _ _ _ _ _ _ => none
  | m + 1 => fX12_feed_b62w n d  (fX12_feed_b62 n d m)

set_option maxRecDepth 100000 in
theorem tX12_feed_b62 {x : am_X} (n d : Nat) (hc : am_ok x cX12_feed yX12_feed 9 (some .int) (d + 2) 0 0) {r : Int32} {I' : am_I} {L' : am_L} (m : Nat) : ∀ (a1 : Int32) (a2 : Int32) (a3 : Int32) (a4 : Int32) (a5 : Int32) (a7 : Int32) (I : am_I) (L : am_L) (hf : fX12_feed_b62 n d m a1 a2 a3 a4 a5 a7 I L = some (r, I', L')), am_J x (fun S => S = (some (.int r), KM, RM, I', L')) 62 [some (.ref 0), some (.int a1), some (.int a2), some (.int a3), some (.int a4), some (.int a5), none, some (.int a7), none] [] KM RM I L 0 0 := by
  induction m with
  | zero => intro a1 a2 a3 a4 a5 a7 I L hf; exact (Option.some_ne_none _ hf.symm).elim
  | succ m ih => intro a1 a2 a3 a4 a5 a7 I L hf; exact tX12_feed_b62w n d hc (fX12_feed_b62 n d m) ih a1 a2 a3 a4 a5 a7 I L hf

set_option maxRecDepth 100000 in
def fX12_feed_b35 (n d : Nat) (k6 : Int32 → Int32 → Int32 → Int32 → Int32 → Int32 → Int32 → am_I → am_L → Option (Int32 × am_I × am_L)) (s0 : Int32) (s1 : Int32) (a1 : Int32) (a2 : Int32) (a3 : Int32) (a4 : Int32) (a5 : Int32) (a7 : Int32) (I : am_I) (L : am_L) : Option (Int32 × am_I × am_L) :=
  am_lt (s0 + s1) (fun v1 => am_lt (a7 + (1 : Int32)) (fun v2 => k6 a1 a2 a3 a4 a5 v1 v2 I L))

set_option maxRecDepth 100000 in
set_option maxHeartbeats 4000000 in
theorem tX12_feed_b35 {x : am_X} (n d : Nat) (hc : am_ok x cX12_feed yX12_feed 9 (some .int) (d + 2) 0 0) {r : Int32} {I' : am_I} {L' : am_L} (k6 : Int32 → Int32 → Int32 → Int32 → Int32 → Int32 → Int32 → am_I → am_L → Option (Int32 × am_I × am_L)) (hk6 : ∀ (a1 : Int32) (a2 : Int32) (a3 : Int32) (a4 : Int32) (a5 : Int32) (a6 : Int32) (a7 : Int32) (I : am_I) (L : am_L), k6 a1 a2 a3 a4 a5 a6 a7 I L = some (r, I', L') → am_J x (fun S => S = (some (.int r), KM, RM, I', L')) 6 [some (.ref 0), some (.int a1), some (.int a2), some (.int a3), some (.int a4), some (.int a5), some (.int a6), some (.int a7), none] [] KM RM I L 0 0) (s0 : Int32) (s1 : Int32) (a1 : Int32) (a2 : Int32) (a3 : Int32) (a4 : Int32) (a5 : Int32) (a7 : Int32) (I : am_I) (L : am_L) (hf : fX12_feed_b35 n d k6 s0 s1 a1 a2 a3 a4 a5 a7 I L = some (r, I', L')) : am_J x (fun S => S = (some (.int r), KM, RM, I', L')) 35 [some (.ref 0), some (.int a1), some (.int a2), some (.int a3), some (.int a4), some (.int a5), none, some (.int a7), none] [.int s1, .int s0] KM RM I L 0 0 := by
  unfold fX12_feed_b35 at hf
  refine j_iadd hc dX12_feed_35 ?_
  refine j_istore hc dX12_feed_36 (Nat.le_of_ble_eq_true rfl) hf (fun v1 hf => ?_)
  refine j_iinc (w := (1 : Int32)) hc dX12_feed_38 rfl ci_1 (Nat.le_of_ble_eq_true rfl) hf (fun v2 hf => ?_)
  refine j_goto (tgt := 6) hc dX12_feed_41 rfl ?_
  exact j_sub (hk6 _ _ _ _ _ _ _ _ _ hf) (And.intro rfl (And.intro rfl (And.intro rfl (And.intro rfl (And.intro rfl (And.intro rfl (And.intro rfl (And.intro rfl (trivial)))))))))

set_option maxRecDepth 100000 in
def fX12_feed_b6w (n d : Nat) (k6 : Int32 → Int32 → Int32 → Int32 → Int32 → Int32 → Int32 → am_I → am_L → Option (Int32 × am_I × am_L)) (a1 : Int32) (a2 : Int32) (a3 : Int32) (a4 : Int32) (a5 : Int32) (a6 : Int32) (a7 : Int32) (I : am_I) (L : am_L) : Option (Int32 × am_I × am_L) :=
  if (20 : Int32) ≤ a7 then
    (if ((I 0 2) + a6) ≤ (240 : Int32) then
      (am_lt (0 : Int32) (fun v1 => fX12_feed_b62 n d n a1 a2 a3 a4 a5 v1 I L))
      else
      (some ((-1 : Int32), I, L)))
    else
    (am_b3 (fX12_byteOf n d a1 a2 a3 a4 a5 a7 I L) (fun v2 I2 L2 => if v2 = 0 then
      (fX12_feed_b35 n d k6 a6 (0 : Int32) a1 a2 a3 a4 a5 a7 I2 L2)
      else
      (fX12_feed_b35 n d k6 a6 (1 : Int32) a1 a2 a3 a4 a5 a7 I2 L2)))

set_option maxRecDepth 100000 in
set_option maxHeartbeats 4000000 in
theorem tX12_feed_b6w {x : am_X} (n d : Nat) (hc : am_ok x cX12_feed yX12_feed 9 (some .int) (d + 2) 0 0) {r : Int32} {I' : am_I} {L' : am_L} (k6 : Int32 → Int32 → Int32 → Int32 → Int32 → Int32 → Int32 → am_I → am_L → Option (Int32 × am_I × am_L)) (hk6 : ∀ (a1 : Int32) (a2 : Int32) (a3 : Int32) (a4 : Int32) (a5 : Int32) (a6 : Int32) (a7 : Int32) (I : am_I) (L : am_L), k6 a1 a2 a3 a4 a5 a6 a7 I L = some (r, I', L') → am_J x (fun S => S = (some (.int r), KM, RM, I', L')) 6 [some (.ref 0), some (.int a1), some (.int a2), some (.int a3), some (.int a4), some (.int a5), some (.int a6), some (.int a7), none] [] KM RM I L 0 0) (a1 : Int32) (a2 : Int32) (a3 : Int32) (a4 : Int32) (a5 : Int32) (a6 : Int32) (a7 : Int32) (I : am_I) (L : am_L) (hf : fX12_feed_b6w n d k6 a1 a2 a3 a4 a5 a6 a7 I L = some (r, I', L')) : am_J x (fun S => S = (some (.int r), KM, RM, I', L')) 6 [some (.ref 0), some (.int a1), some (.int a2), some (.int a3), some (.int a4), some (.int a5), some (.int a6), some (.int a7), none] [] KM RM I L 0 0 := by
  unfold fX12_feed_b6w at hf
  refine j_iload hc dX12_feed_6 rfl ?_
  refine j_bipush (v := (20 : Int32)) hc dX12_feed_8 cb_20 ?_
  refine j_icmp_ge (tgt := 44) hc dX12_feed_10 rfl hf (fun hf => ?_) (fun hf => ?_)
  · refine j_aload_n hc dX12_feed_44 rfl ?_
    refine j_getI hc dX12_feed_45 fgM_X12_98_0 ?_
    refine j_iload hc dX12_feed_48 rfl ?_
    refine j_iadd hc dX12_feed_50 ?_
    refine j_sipush (v := (240 : Int32)) hc dX12_feed_51 cs_240 ?_
    refine j_icmp_le (tgt := 59) hc dX12_feed_54 rfl hf (fun hf => ?_) (fun hf => ?_)
    · refine j_iconst (v := (0 : Int32)) hc dX12_feed_59 ci_0 ?_
      refine j_istore hc dX12_feed_60 (Nat.le_of_ble_eq_true rfl) hf (fun v1 hf => ?_)
      exact j_sub (tX12_feed_b62 n d hc n _ _ _ _ _ _ _ _ hf) (And.intro rfl (And.intro rfl (And.intro rfl (And.intro rfl (And.intro rfl (And.intro rfl (And.intro rfl (trivial))))))))
    · refine j_iconst (v := (-1 : Int32)) hc dX12_feed_57 ci_m1 ?_
      exact j_ireturn hc dX12_feed_58 rfl rfl hf
  · refine j_iload hc dX12_feed_13 rfl ?_
    refine j_iload_n hc dX12_feed_15 rfl ?_
    refine j_iload_n hc dX12_feed_16 rfl ?_
    refine j_iload_n hc dX12_feed_17 rfl ?_
    refine j_iload hc dX12_feed_18 rfl ?_
    refine j_iload hc dX12_feed_20 rfl ?_
    refine j_iload hc dX12_feed_22 rfl ?_
    refine j_callSI (As := [.int a1, .int a2, .int a3, .int a4, .int a5, .int a7]) hc dX12_feed_24 kw_1618 mX12_byteOf  rfl (by omega) (Nat.le_of_ble_eq_true rfl) (Nat.le_of_ble_eq_true rfl) ⟨Nat.le_refl _, Nat.le_refl _⟩ hf (fun v I' L' h => qX12_byteOf x.2.1 n d a1 a2 a3 a4 a5 a7 I L v I' L' h) (fun v2 I2 L2 hf => ?_)
    refine j_if_eq (tgt := 34) hc dX12_feed_27 rfl hf (fun hf => ?_) (fun hf => ?_)
    · refine j_iconst (v := (0 : Int32)) hc dX12_feed_34 ci_0 ?_
      exact j_sub (tX12_feed_b35 n d hc k6 hk6 _ _ _ _ _ _ _ _ _ _ hf) (And.intro rfl (And.intro rfl (And.intro rfl (And.intro rfl (And.intro rfl (And.intro rfl (And.intro rfl (trivial))))))))
    · refine j_iconst (v := (1 : Int32)) hc dX12_feed_30 ci_1 ?_
      refine j_goto (tgt := 35) hc dX12_feed_31 rfl ?_
      exact j_sub (tX12_feed_b35 n d hc k6 hk6 _ _ _ _ _ _ _ _ _ _ hf) (And.intro rfl (And.intro rfl (And.intro rfl (And.intro rfl (And.intro rfl (And.intro rfl (And.intro rfl (trivial))))))))

def fX12_feed_b6 (n d : Nat) : Nat → Int32 → Int32 → Int32 → Int32 → Int32 → Int32 → Int32 → am_I → am_L → Option (Int32 × am_I × am_L)
  | 0 => fun _ _ _ _ _ _ _ _ _ => none
  | m + 1 => fX12_feed_b6w n d  (fX12_feed_b6 n d m)

set_option maxRecDepth 100000 in
theorem tX12_feed_b6 {x : am_X} (n d : Nat) (hc : am_ok x cX12_feed yX12_feed 9 (some .int) (d + 2) 0 0) {r : Int32} {I' : am_I} {L' : am_L} (m : Nat) : ∀ (a1 : Int32) (a2 : Int32) (a3 : Int32) (a4 : Int32) (a5 : Int32) (a6 : Int32) (a7 : Int32) (I : am_I) (L : am_L) (hf : fX12_feed_b6 n d m a1 a2 a3 a4 a5 a6 a7 I L = some (r, I', L')), am_J x (fun S => S = (some (.int r), KM, RM, I', L')) 6 [some (.ref 0), some (.int a1), some (.int a2), some (.int a3), some (.int a4), some (.int a5), some (.int a6), some (.int a7), none] [] KM RM I L 0 0 := by
  induction m with
  | zero => intro a1 a2 a3 a4 a5 a6 a7 I L hf; exact (Option.some_ne_none _ hf.symm).elim
  | succ m ih => intro a1 a2 a3 a4 a5 a6 a7 I L hf; exact tX12_feed_b6w n d hc (fX12_feed_b6 n d m) ih a1 a2 a3 a4 a5 a6 a7 I L hf

set_option maxRecDepth 100000 in
def fX12_feed (n d : Nat) (a1 : Int32) (a2 : Int32) (a3 : Int32) (a4 : Int32) (a5 : Int32) (I : am_I) (L : am_L) : Option (Int32 × am_I × am_L) :=
  am_lt (0 : Int32) (fun v1 => am_lt (0 : Int32) (fun v2 => fX12_feed_b6 n d n a1 a2 a3 a4 a5 v1 v2 I L))

set_option maxRecDepth 100000 in
set_option maxHeartbeats 4000000 in
theorem tX12_feed {x : am_X} (n d : Nat) (hc : am_ok x cX12_feed yX12_feed 9 (some .int) (d + 2) 0 0) {r : Int32} {I' : am_I} {L' : am_L} (a1 : Int32) (a2 : Int32) (a3 : Int32) (a4 : Int32) (a5 : Int32) (I : am_I) (L : am_L) (hf : fX12_feed n d a1 a2 a3 a4 a5 I L = some (r, I', L')) : am_J x (fun S => S = (some (.int r), KM, RM, I', L')) 0 [some (.ref 0), some (.int a1), some (.int a2), some (.int a3), some (.int a4), some (.int a5), none, none, none] [] KM RM I L 0 0 := by
  unfold fX12_feed at hf
  refine j_iconst (v := (0 : Int32)) hc dX12_feed_0 ci_0 ?_
  refine j_istore hc dX12_feed_1 (Nat.le_of_ble_eq_true rfl) hf (fun v1 hf => ?_)
  refine j_iconst (v := (0 : Int32)) hc dX12_feed_3 ci_0 ?_
  refine j_istore hc dX12_feed_4 (Nat.le_of_ble_eq_true rfl) hf (fun v2 hf => ?_)
  exact j_sub (tX12_feed_b6 n d hc n _ _ _ _ _ _ _ _ _ hf) (And.intro rfl (And.intro rfl (And.intro rfl (And.intro rfl (And.intro rfl (And.intro rfl (And.intro rfl (And.intro rfl (trivial)))))))))

set_option maxRecDepth 100000 in
theorem qX12_feed (l : Launch) (n d : Nat) (a1 : Int32) (a2 : Int32) (a3 : Int32) (a4 : Int32) (a5 : Int32) (I : am_I) (L : am_L) (r : Int32) (I' : am_I) (L' : am_L) (hf : fX12_feed n d a1 a2 a3 a4 a5 I L = some (r, I', L')) : am_C l yX12_feed cX12_feed 9 (some .int) (d + 2) [.ref 0, .int a1, .int a2, .int a3, .int a4, .int a5] KM RM I L (some (.int r)) I' L' := by
  exact am_intro (plainFor_of_name plX12) (fun _ _ => trivial) (Nat.le_of_ble_eq_true rfl) (fun x hl hc => by subst hl; exact j_sub (tX12_feed n d hc _ _ _ _ _ _ _ hf) (And.intro rfl (And.intro rfl (And.intro rfl (And.intro rfl (And.intro rfl (And.intro rfl (trivial))))))))
set_option maxRecDepth 100000 in
def fX12_end (n d : Nat) (a1 : Int32) (I : am_I) (L : am_L) : Option (Int32 × am_I × am_L) :=
  if a1 < 0 then
    (some ((0 : Int32), I, L))
    else
    (if a1 ≤ (I 0 2) then
      (am_lt (am_up I 0 2 a1) (fun I1 => some ((1 : Int32), I1, L)))
      else
      (some ((0 : Int32), I, L)))

set_option maxRecDepth 100000 in
set_option maxHeartbeats 4000000 in
theorem tX12_end {x : am_X} (n d : Nat) (hc : am_ok x cX12_end yX12_end 2 (some .boolean) (d + 1) 0 0) {r : Int32} {I' : am_I} {L' : am_L} (a1 : Int32) (I : am_I) (L : am_L) (hf : fX12_end n d a1 I L = some (r, I', L')) : am_J x (fun S => S = (some (.int r), KM, RM, I', L')) 0 [some (.ref 0), some (.int a1)] [] KM RM I L 0 0 := by
  unfold fX12_end at hf
  refine j_iload_n hc dX12_end_0 rfl ?_
  refine j_if_lt (tgt := 12) hc dX12_end_1 rfl hf (fun hf => ?_) (fun hf => ?_)
  · refine j_iconst (v := (0 : Int32)) hc dX12_end_12 ci_0 ?_
    exact j_zret hc dX12_end_13 rfl rfl (Or.inl rfl) hf
  · refine j_iload_n hc dX12_end_4 rfl ?_
    refine j_aload_n hc dX12_end_5 rfl ?_
    refine j_getI hc dX12_end_6 fgM_X12_98_0 ?_
    refine j_icmp_le (tgt := 14) hc dX12_end_9 rfl hf (fun hf => ?_) (fun hf => ?_)
    · refine j_aload_n hc dX12_end_14 rfl ?_
      refine j_iload_n hc dX12_end_15 rfl ?_
      refine j_putI hc dX12_end_16 fpM_X12_98_0 rfl rfl hf (fun I1 hf => ?_)
      refine j_iconst (v := (1 : Int32)) hc dX12_end_19 ci_1 ?_
      exact j_zret hc dX12_end_20 rfl rfl (Or.inr rfl) hf
    · refine j_iconst (v := (0 : Int32)) hc dX12_end_12 ci_0 ?_
      exact j_zret hc dX12_end_13 rfl rfl (Or.inl rfl) hf

set_option maxRecDepth 100000 in
theorem qX12_end (l : Launch) (n d : Nat) (a1 : Int32) (I : am_I) (L : am_L) (r : Int32) (I' : am_I) (L' : am_L) (hf : fX12_end n d a1 I L = some (r, I', L')) : am_C l yX12_end cX12_end 2 (some .boolean) (d + 1) [.ref 0, .int a1] KM RM I L (some (.int r)) I' L' := by
  exact am_intro (plainFor_of_name plX12) (fun _ _ => trivial) (Nat.le_of_ble_eq_true rfl) (fun x hl hc => by subst hl; exact j_sub (tX12_end n d hc _ _ _ hf) (And.intro rfl (And.intro rfl (trivial))))
set_option maxRecDepth 100000 in
def fX12_usual (n d : Nat) (a0 : Int32) (a1 : Int32) (I : am_I) (L : am_L) : Option (Int32 × am_I × am_L) :=
  if a0 = 109 then (if a1 = (1 : Int32) then
      (some ((6 : Int32), I, L))
      else
      (if a1 = (2 : Int32) then
        (some ((1 : Int32), I, L))
        else
        (if a1 = (4 : Int32) then
          (some ((3 : Int32), I, L))
          else
          (some ((0 : Int32), I, L))))) else if a0 = 111 then (if a1 = 0 then
        (some ((3 : Int32), I, L))
        else
        (some ((2 : Int32), I, L))) else (if a1 = 0 then
        (some ((6 : Int32), I, L))
        else
        (some ((0 : Int32), I, L)))

set_option maxRecDepth 100000 in
set_option maxHeartbeats 4000000 in
theorem tX12_usual {x : am_X} (n d : Nat) (hc : am_ok x cX12_usual yX12_usual 2 (some .int) (d + 1) 0 0) {r : Int32} {I' : am_I} {L' : am_L} (a0 : Int32) (a1 : Int32) (I : am_I) (L : am_L) (hf : fX12_usual n d a0 a1 I L = some (r, I', L')) : am_J x (fun S => S = (some (.int r), KM, RM, I', L')) 0 [some (.int a0), some (.int a1)] [] KM RM I L 0 0 := by
  unfold fX12_usual at hf
  refine j_iload_n hc dX12_usual_0 rfl ?_
  by_cases q0 : a0 = 109
  · rw [if_pos q0] at hf
    refine j_look (off := 27) (tgt := 28) hc dX12_usual_1 (by decide) (by rw [q0]; try rfl) rfl ?_
    refine j_iload_n hc dX12_usual_28 rfl ?_
    refine j_iconst (v := (1 : Int32)) hc dX12_usual_29 ci_1 ?_
    refine j_icmp_ne (tgt := 38) hc dX12_usual_30 rfl hf (fun hf => ?_) (fun hf => ?_)
    · refine j_iload_n hc dX12_usual_38 rfl ?_
      refine j_iconst (v := (2 : Int32)) hc dX12_usual_39 ci_2 ?_
      refine j_icmp_ne (tgt := 47) hc dX12_usual_40 rfl hf (fun hf => ?_) (fun hf => ?_)
      · refine j_iload_n hc dX12_usual_47 rfl ?_
        refine j_iconst (v := (4 : Int32)) hc dX12_usual_48 ci_4 ?_
        refine j_icmp_ne (tgt := 56) hc dX12_usual_49 rfl hf (fun hf => ?_) (fun hf => ?_)
        · refine j_iconst (v := (0 : Int32)) hc dX12_usual_56 ci_0 ?_
          exact j_ireturn hc dX12_usual_57 rfl rfl hf
        · refine j_iconst (v := (3 : Int32)) hc dX12_usual_52 ci_3 ?_
          refine j_goto (tgt := 57) hc dX12_usual_53 rfl ?_
          exact j_ireturn hc dX12_usual_57 rfl rfl hf
      · refine j_iconst (v := (1 : Int32)) hc dX12_usual_43 ci_1 ?_
        refine j_goto (tgt := 57) hc dX12_usual_44 rfl ?_
        exact j_ireturn hc dX12_usual_57 rfl rfl hf
    · refine j_bipush (v := (6 : Int32)) hc dX12_usual_33 cb_6 ?_
      refine j_goto (tgt := 57) hc dX12_usual_35 rfl ?_
      exact j_ireturn hc dX12_usual_57 rfl rfl hf
  · rw [if_neg q0] at hf
    by_cases q1 : a0 = 111
    · rw [if_pos q1] at hf
      refine j_look (off := 57) (tgt := 58) hc dX12_usual_1 (by decide) (by rw [q1]; try rfl) rfl ?_
      refine j_iload_n hc dX12_usual_58 rfl ?_
      refine j_if_ne (tgt := 66) hc dX12_usual_59 rfl hf (fun hf => ?_) (fun hf => ?_)
      · refine j_iconst (v := (2 : Int32)) hc dX12_usual_66 ci_2 ?_
        exact j_ireturn hc dX12_usual_67 rfl rfl hf
      · refine j_iconst (v := (3 : Int32)) hc dX12_usual_62 ci_3 ?_
        refine j_goto (tgt := 67) hc dX12_usual_63 rfl ?_
        exact j_ireturn hc dX12_usual_67 rfl rfl hf
    · rw [if_neg q1] at hf
      refine j_look (off := 67) (tgt := 68) hc dX12_usual_1 (by decide) ((lv_osw (a := 109) q0 rfl).trans ((lv_osw (a := 111) q1 rfl).trans rfl)) rfl ?_
      refine j_iload_n hc dX12_usual_68 rfl ?_
      refine j_if_ne (tgt := 77) hc dX12_usual_69 rfl hf (fun hf => ?_) (fun hf => ?_)
      · refine j_iconst (v := (0 : Int32)) hc dX12_usual_77 ci_0 ?_
        exact j_ireturn hc dX12_usual_78 rfl rfl hf
      · refine j_bipush (v := (6 : Int32)) hc dX12_usual_72 cb_6 ?_
        refine j_goto (tgt := 78) hc dX12_usual_74 rfl ?_
        exact j_ireturn hc dX12_usual_78 rfl rfl hf

set_option maxRecDepth 100000 in
theorem qX12_usual (l : Launch) (n d : Nat) (a0 : Int32) (a1 : Int32) (I : am_I) (L : am_L) (r : Int32) (I' : am_I) (L' : am_L) (hf : fX12_usual n d a0 a1 I L = some (r, I', L')) : am_C l yX12_usual cX12_usual 2 (some .int) (d + 1) [.int a0, .int a1] KM RM I L (some (.int r)) I' L' := by
  exact am_intro (plainFor_of_name plX12) (fun _ _ => trivial) (Nat.le_of_ble_eq_true rfl) (fun x hl hc => by subst hl; exact j_sub (tX12_usual n d hc _ _ _ _ hf) (And.intro rfl (And.intro rfl (trivial))))
set_option maxRecDepth 100000 in
def fX12_here (n d : Nat) (I : am_I) (L : am_L) : Option (Int32 × am_I × am_L) :=
  if (I 0 2) ≤ (I 0 3) then
    (some ((-1 : Int32), I, L))
    else
    (am_ck (I 0 3) 240 (am_lt (I 1 ((I 0 3)).toNatClampNeg) (fun v1 => some (v1, I, L))))

set_option maxRecDepth 100000 in
set_option maxHeartbeats 4000000 in
theorem tX12_here {x : am_X} (n d : Nat) (hc : am_ok x cX12_here yX12_here 1 (some .int) (d + 1) 0 0) {r : Int32} {I' : am_I} {L' : am_L} (I : am_I) (L : am_L) (hf : fX12_here n d I L = some (r, I', L')) : am_J x (fun S => S = (some (.int r), KM, RM, I', L')) 0 [some (.ref 0)] [] KM RM I L 0 0 := by
  unfold fX12_here at hf
  refine j_aload_n hc dX12_here_0 rfl ?_
  refine j_getI hc dX12_here_1 fgM_X12_101_0 ?_
  refine j_aload_n hc dX12_here_4 rfl ?_
  refine j_getI hc dX12_here_5 fgM_X12_98_0 ?_
  refine j_icmp_ge (tgt := 23) hc dX12_here_8 rfl hf (fun hf => ?_) (fun hf => ?_)
  · refine j_iconst (v := (-1 : Int32)) hc dX12_here_23 ci_m1 ?_
    exact j_ireturn hc dX12_here_24 rfl rfl hf
  · refine j_aload_n hc dX12_here_11 rfl ?_
    refine j_getR (u := 1) hc dX12_here_12 fgM_X12_9_0 rM_0_1 ?_
    refine j_aload_n hc dX12_here_15 rfl ?_
    refine j_getI hc dX12_here_16 fgM_X12_101_0 ?_
    refine j_iaload (n := 240) hc dX12_here_19 kM_1 hf (fun v1 hf => ?_)
    refine j_goto (tgt := 24) hc dX12_here_20 rfl ?_
    exact j_ireturn hc dX12_here_24 rfl rfl hf

set_option maxRecDepth 100000 in
theorem qX12_here (l : Launch) (n d : Nat) (I : am_I) (L : am_L) (r : Int32) (I' : am_I) (L' : am_L) (hf : fX12_here n d I L = some (r, I', L')) : am_C l yX12_here cX12_here 1 (some .int) (d + 1) [.ref 0] KM RM I L (some (.int r)) I' L' := by
  exact am_intro (plainFor_of_name plX12) (fun _ _ => trivial) (Nat.le_of_ble_eq_true rfl) (fun x hl hc => by subst hl; exact j_sub (tX12_here n d hc  _ _ hf) (And.intro rfl (trivial)))
set_option maxRecDepth 100000 in
def fX12_look_b0w (n d : Nat) (k0 : am_I → am_L → Option (Int32 × am_I × am_L)) (I : am_I) (L : am_L) : Option (Int32 × am_I × am_L) :=
  am_b3 (fX12_here n d I L) (fun v1 I1 L1 => if v1 = (32 : Int32) then
    (am_lt (am_up I1 0 3 ((I1 0 3) + (1 : Int32))) (fun I3 => k0 I3 L1))
    else
    (am_b3 (fX12_here n d I1 L1) (fun v2 I2 L2 => some (v2, I2, L2))))

set_option maxRecDepth 100000 in
set_option maxHeartbeats 4000000 in
theorem tX12_look_b0w {x : am_X} (n d : Nat) (hc : am_ok x cX12_look yX12_look 1 (some .int) (d + 2) 0 0) {r : Int32} {I' : am_I} {L' : am_L} (k0 : am_I → am_L → Option (Int32 × am_I × am_L)) (hk0 : ∀ (I : am_I) (L : am_L), k0 I L = some (r, I', L') → am_J x (fun S => S = (some (.int r), KM, RM, I', L')) 0 [some (.ref 0)] [] KM RM I L 0 0) (I : am_I) (L : am_L) (hf : fX12_look_b0w n d k0 I L = some (r, I', L')) : am_J x (fun S => S = (some (.int r), KM, RM, I', L')) 0 [some (.ref 0)] [] KM RM I L 0 0 := by
  unfold fX12_look_b0w at hf
  refine j_aload_n hc dX12_look_0 rfl ?_
  refine j_callVI (t := 0) (As := []) hc dX12_look_1 kw_1640 mX12_here kM_0 clX12 rfl (by omega) (Nat.le_of_ble_eq_true rfl) (Nat.le_of_ble_eq_true rfl) ⟨Nat.le_refl _, Nat.le_refl _⟩ hf (fun v I' L' h => qX12_here x.2.1 n d I L v I' L' h) (fun v1 I1 L1 hf => ?_)
  refine j_bipush (v := (32 : Int32)) hc dX12_look_4 cb_32 ?_
  refine j_icmp_ne (tgt := 22) hc dX12_look_6 rfl hf (fun hf => ?_) (fun hf => ?_)
  · refine j_aload_n hc dX12_look_22 rfl ?_
    refine j_callVI (t := 0) (As := []) hc dX12_look_23 kw_1640 mX12_here kM_0 clX12 rfl (by omega) (Nat.le_of_ble_eq_true rfl) (Nat.le_of_ble_eq_true rfl) ⟨Nat.le_refl _, Nat.le_refl _⟩ hf (fun v I' L' h => qX12_here x.2.1 n d I1 L1 v I' L' h) (fun v2 I2 L2 hf => ?_)
    exact j_ireturn hc dX12_look_26 rfl rfl hf
  · refine j_aload_n hc dX12_look_9 rfl ?_
    refine j_dup hc dX12_look_10 rfl ?_
    refine j_getI hc dX12_look_11 fgM_X12_101_0 ?_
    refine j_iconst (v := (1 : Int32)) hc dX12_look_14 ci_1 ?_
    refine j_iadd hc dX12_look_15 ?_
    refine j_putI hc dX12_look_16 fpM_X12_101_0 rfl rfl hf (fun I3 hf => ?_)
    refine j_goto (tgt := 0) hc dX12_look_19 rfl ?_
    exact j_sub (hk0 _ _ hf) (And.intro rfl (trivial))

def fX12_look_b0 (n d : Nat) : Nat → am_I → am_L → Option (Int32 × am_I × am_L)
  | 0 => fun _ _ => none
  | m + 1 => fX12_look_b0w n d  (fX12_look_b0 n d m)

set_option maxRecDepth 100000 in
theorem tX12_look_b0 {x : am_X} (n d : Nat) (hc : am_ok x cX12_look yX12_look 1 (some .int) (d + 2) 0 0) {r : Int32} {I' : am_I} {L' : am_L} (m : Nat) : ∀ (I : am_I) (L : am_L) (hf : fX12_look_b0 n d m I L = some (r, I', L')), am_J x (fun S => S = (some (.int r), KM, RM, I', L')) 0 [some (.ref 0)] [] KM RM I L 0 0 := by
  induction m with
  | zero => intro I L hf; exact (Option.some_ne_none _ hf.symm).elim
  | succ m ih => intro I L hf; exact tX12_look_b0w n d hc (fX12_look_b0 n d m) ih I L hf

def fX12_look (n d : Nat) (I : am_I) (L : am_L) : Option (Int32 × am_I × am_L) := fX12_look_b0 n d n  I L
set_option maxRecDepth 100000 in
theorem qX12_look (l : Launch) (n d : Nat) (I : am_I) (L : am_L) (r : Int32) (I' : am_I) (L' : am_L) (hf : fX12_look n d I L = some (r, I', L')) : am_C l yX12_look cX12_look 1 (some .int) (d + 2) [.ref 0] KM RM I L (some (.int r)) I' L' := by
  exact am_intro (plainFor_of_name plX12) (fun _ _ => trivial) (Nat.le_of_ble_eq_true rfl) (fun x hl hc => by subst hl; exact j_sub (tX12_look_b0 n d hc n  _ _ hf) (And.intro rfl (trivial)))
set_option maxRecDepth 100000 in
def fX12_itemOf (n d : Nat) (a0 : Int32) (a1 : Int32) (I : am_I) (L : am_L) : Option (Int32 × am_I × am_L) :=
  if a0 = 109 then (if a1 = (115 : Int32) then
      (some ((0 : Int32), I, L))
      else
      (if a1 = (100 : Int32) then
        (some ((1 : Int32), I, L))
        else
        (if a1 = (118 : Int32) then
          (some ((2 : Int32), I, L))
          else
          (if a1 = (98 : Int32) then
            (some ((3 : Int32), I, L))
            else
            (if a1 = (110 : Int32) then
              (some ((4 : Int32), I, L))
              else
              (if a1 = (105 : Int32) then
                (some ((5 : Int32), I, L))
                else
                (some ((-1 : Int32), I, L)))))))) else if a0 = 111 then (if a1 = (107 : Int32) then
        (some ((0 : Int32), I, L))
        else
        (if a1 = (120 : Int32) then
          (some ((1 : Int32), I, L))
          else
          (some ((-1 : Int32), I, L)))) else (if a1 = (112 : Int32) then
        (some ((0 : Int32), I, L))
        else
        (if a1 = (103 : Int32) then
          (some ((1 : Int32), I, L))
          else
          (some ((-1 : Int32), I, L))))

set_option maxRecDepth 100000 in
set_option maxHeartbeats 4000000 in
theorem tX12_itemOf {x : am_X} (n d : Nat) (hc : am_ok x cX12_itemOf yX12_itemOf 2 (some .int) (d + 1) 0 0) {r : Int32} {I' : am_I} {L' : am_L} (a0 : Int32) (a1 : Int32) (I : am_I) (L : am_L) (hf : fX12_itemOf n d a0 a1 I L = some (r, I', L')) : am_J x (fun S => S = (some (.int r), KM, RM, I', L')) 0 [some (.int a0), some (.int a1)] [] KM RM I L 0 0 := by
  unfold fX12_itemOf at hf
  refine j_iload_n hc dX12_itemOf_0 rfl ?_
  by_cases q0 : a0 = 109
  · rw [if_pos q0] at hf
    refine j_look (off := 27) (tgt := 28) hc dX12_itemOf_1 (by decide) (by rw [q0]; try rfl) rfl ?_
    refine j_iload_n hc dX12_itemOf_28 rfl ?_
    refine j_bipush (v := (115 : Int32)) hc dX12_itemOf_29 cb_115 ?_
    refine j_icmp_ne (tgt := 38) hc dX12_itemOf_31 rfl hf (fun hf => ?_) (fun hf => ?_)
    · refine j_iload_n hc dX12_itemOf_38 rfl ?_
      refine j_bipush (v := (100 : Int32)) hc dX12_itemOf_39 cb_100 ?_
      refine j_icmp_ne (tgt := 48) hc dX12_itemOf_41 rfl hf (fun hf => ?_) (fun hf => ?_)
      · refine j_iload_n hc dX12_itemOf_48 rfl ?_
        refine j_bipush (v := (118 : Int32)) hc dX12_itemOf_49 cb_118 ?_
        refine j_icmp_ne (tgt := 58) hc dX12_itemOf_51 rfl hf (fun hf => ?_) (fun hf => ?_)
        · refine j_iload_n hc dX12_itemOf_58 rfl ?_
          refine j_bipush (v := (98 : Int32)) hc dX12_itemOf_59 cb_98 ?_
          refine j_icmp_ne (tgt := 68) hc dX12_itemOf_61 rfl hf (fun hf => ?_) (fun hf => ?_)
          · refine j_iload_n hc dX12_itemOf_68 rfl ?_
            refine j_bipush (v := (110 : Int32)) hc dX12_itemOf_69 cb_110 ?_
            refine j_icmp_ne (tgt := 78) hc dX12_itemOf_71 rfl hf (fun hf => ?_) (fun hf => ?_)
            · refine j_iload_n hc dX12_itemOf_78 rfl ?_
              refine j_bipush (v := (105 : Int32)) hc dX12_itemOf_79 cb_105 ?_
              refine j_icmp_ne (tgt := 88) hc dX12_itemOf_81 rfl hf (fun hf => ?_) (fun hf => ?_)
              · refine j_iconst (v := (-1 : Int32)) hc dX12_itemOf_88 ci_m1 ?_
                exact j_ireturn hc dX12_itemOf_89 rfl rfl hf
              · refine j_iconst (v := (5 : Int32)) hc dX12_itemOf_84 ci_5 ?_
                refine j_goto (tgt := 89) hc dX12_itemOf_85 rfl ?_
                exact j_ireturn hc dX12_itemOf_89 rfl rfl hf
            · refine j_iconst (v := (4 : Int32)) hc dX12_itemOf_74 ci_4 ?_
              refine j_goto (tgt := 89) hc dX12_itemOf_75 rfl ?_
              exact j_ireturn hc dX12_itemOf_89 rfl rfl hf
          · refine j_iconst (v := (3 : Int32)) hc dX12_itemOf_64 ci_3 ?_
            refine j_goto (tgt := 89) hc dX12_itemOf_65 rfl ?_
            exact j_ireturn hc dX12_itemOf_89 rfl rfl hf
        · refine j_iconst (v := (2 : Int32)) hc dX12_itemOf_54 ci_2 ?_
          refine j_goto (tgt := 89) hc dX12_itemOf_55 rfl ?_
          exact j_ireturn hc dX12_itemOf_89 rfl rfl hf
      · refine j_iconst (v := (1 : Int32)) hc dX12_itemOf_44 ci_1 ?_
        refine j_goto (tgt := 89) hc dX12_itemOf_45 rfl ?_
        exact j_ireturn hc dX12_itemOf_89 rfl rfl hf
    · refine j_iconst (v := (0 : Int32)) hc dX12_itemOf_34 ci_0 ?_
      refine j_goto (tgt := 89) hc dX12_itemOf_35 rfl ?_
      exact j_ireturn hc dX12_itemOf_89 rfl rfl hf
  · rw [if_neg q0] at hf
    by_cases q1 : a0 = 111
    · rw [if_pos q1] at hf
      refine j_look (off := 89) (tgt := 90) hc dX12_itemOf_1 (by decide) (by rw [q1]; try rfl) rfl ?_
      refine j_iload_n hc dX12_itemOf_90 rfl ?_
      refine j_bipush (v := (107 : Int32)) hc dX12_itemOf_91 cb_107 ?_
      refine j_icmp_ne (tgt := 100) hc dX12_itemOf_93 rfl hf (fun hf => ?_) (fun hf => ?_)
      · refine j_iload_n hc dX12_itemOf_100 rfl ?_
        refine j_bipush (v := (120 : Int32)) hc dX12_itemOf_101 cb_120 ?_
        refine j_icmp_ne (tgt := 110) hc dX12_itemOf_103 rfl hf (fun hf => ?_) (fun hf => ?_)
        · refine j_iconst (v := (-1 : Int32)) hc dX12_itemOf_110 ci_m1 ?_
          exact j_ireturn hc dX12_itemOf_111 rfl rfl hf
        · refine j_iconst (v := (1 : Int32)) hc dX12_itemOf_106 ci_1 ?_
          refine j_goto (tgt := 111) hc dX12_itemOf_107 rfl ?_
          exact j_ireturn hc dX12_itemOf_111 rfl rfl hf
      · refine j_iconst (v := (0 : Int32)) hc dX12_itemOf_96 ci_0 ?_
        refine j_goto (tgt := 111) hc dX12_itemOf_97 rfl ?_
        exact j_ireturn hc dX12_itemOf_111 rfl rfl hf
    · rw [if_neg q1] at hf
      refine j_look (off := 111) (tgt := 112) hc dX12_itemOf_1 (by decide) ((lv_osw (a := 109) q0 rfl).trans ((lv_osw (a := 111) q1 rfl).trans rfl)) rfl ?_
      refine j_iload_n hc dX12_itemOf_112 rfl ?_
      refine j_bipush (v := (112 : Int32)) hc dX12_itemOf_113 cb_112 ?_
      refine j_icmp_ne (tgt := 122) hc dX12_itemOf_115 rfl hf (fun hf => ?_) (fun hf => ?_)
      · refine j_iload_n hc dX12_itemOf_122 rfl ?_
        refine j_bipush (v := (103 : Int32)) hc dX12_itemOf_123 cb_103 ?_
        refine j_icmp_ne (tgt := 132) hc dX12_itemOf_125 rfl hf (fun hf => ?_) (fun hf => ?_)
        · refine j_iconst (v := (-1 : Int32)) hc dX12_itemOf_132 ci_m1 ?_
          exact j_ireturn hc dX12_itemOf_133 rfl rfl hf
        · refine j_iconst (v := (1 : Int32)) hc dX12_itemOf_128 ci_1 ?_
          refine j_goto (tgt := 133) hc dX12_itemOf_129 rfl ?_
          exact j_ireturn hc dX12_itemOf_133 rfl rfl hf
      · refine j_iconst (v := (0 : Int32)) hc dX12_itemOf_118 ci_0 ?_
        refine j_goto (tgt := 133) hc dX12_itemOf_119 rfl ?_
        exact j_ireturn hc dX12_itemOf_133 rfl rfl hf

set_option maxRecDepth 100000 in
theorem qX12_itemOf (l : Launch) (n d : Nat) (a0 : Int32) (a1 : Int32) (I : am_I) (L : am_L) (r : Int32) (I' : am_I) (L' : am_L) (hf : fX12_itemOf n d a0 a1 I L = some (r, I', L')) : am_C l yX12_itemOf cX12_itemOf 2 (some .int) (d + 1) [.int a0, .int a1] KM RM I L (some (.int r)) I' L' := by
  exact am_intro (plainFor_of_name plX12) (fun _ _ => trivial) (Nat.le_of_ble_eq_true rfl) (fun x hl hc => by subst hl; exact j_sub (tX12_itemOf n d hc _ _ _ _ hf) (And.intro rfl (And.intro rfl (trivial))))
set_option maxRecDepth 100000 in
def fX12_has (n d : Nat) (a0 : Int32) (a1 : Int32) (I : am_I) (L : am_L) : Option (Int32 × am_I × am_L) :=
  if ((a0 >>> (a1 &&& 31)) &&& (1 : Int32)) = (1 : Int32) then
    (some ((1 : Int32), I, L))
    else
    (some ((0 : Int32), I, L))

set_option maxRecDepth 100000 in
set_option maxHeartbeats 4000000 in
theorem tX12_has {x : am_X} (n d : Nat) (hc : am_ok x cX12_has yX12_has 2 (some .boolean) (d + 1) 0 0) {r : Int32} {I' : am_I} {L' : am_L} (a0 : Int32) (a1 : Int32) (I : am_I) (L : am_L) (hf : fX12_has n d a0 a1 I L = some (r, I', L')) : am_J x (fun S => S = (some (.int r), KM, RM, I', L')) 0 [some (.int a0), some (.int a1)] [] KM RM I L 0 0 := by
  unfold fX12_has at hf
  refine j_iload_n hc dX12_has_0 rfl ?_
  refine j_iload_n hc dX12_has_1 rfl ?_
  refine j_ishr hc dX12_has_2 ?_
  refine j_iconst (v := (1 : Int32)) hc dX12_has_3 ci_1 ?_
  refine j_iand hc dX12_has_4 ?_
  refine j_iconst (v := (1 : Int32)) hc dX12_has_5 ci_1 ?_
  refine j_icmp_ne (tgt := 13) hc dX12_has_6 rfl hf (fun hf => ?_) (fun hf => ?_)
  · refine j_iconst (v := (0 : Int32)) hc dX12_has_13 ci_0 ?_
    exact j_zret hc dX12_has_14 rfl rfl (Or.inl rfl) hf
  · refine j_iconst (v := (1 : Int32)) hc dX12_has_9 ci_1 ?_
    refine j_goto (tgt := 14) hc dX12_has_10 rfl ?_
    exact j_zret hc dX12_has_14 rfl rfl (Or.inr rfl) hf

set_option maxRecDepth 100000 in
theorem qX12_has (l : Launch) (n d : Nat) (a0 : Int32) (a1 : Int32) (I : am_I) (L : am_L) (r : Int32) (I' : am_I) (L' : am_L) (hf : fX12_has n d a0 a1 I L = some (r, I', L')) : am_C l yX12_has cX12_has 2 (some .boolean) (d + 1) [.int a0, .int a1] KM RM I L (some (.int r)) I' L' := by
  exact am_intro (plainFor_of_name plX12) (fun _ _ => trivial) (Nat.le_of_ble_eq_true rfl) (fun x hl hc => by subst hl; exact j_sub (tX12_has n d hc _ _ _ _ hf) (And.intro rfl (And.intro rfl (trivial))))
set_option maxRecDepth 100000 in
def fX12_lowest_b17 (n d : Nat) (I : am_I) (L : am_L) : Option (Int32 × am_I × am_L) :=
  some ((1 : Int32), I, L)

set_option maxRecDepth 100000 in
set_option maxHeartbeats 4000000 in
theorem tX12_lowest_b17 {x : am_X} (n d : Nat) (hc : am_ok x cX12_lowest yX12_lowest 2 (some .int) (d + 1) 0 0) {r : Int32} {I' : am_I} {L' : am_L} (I : am_I) (L : am_L) (hf : fX12_lowest_b17 n d I L = some (r, I', L')) : am_J x (fun S => S = (some (.int r), KM, RM, I', L')) 17 [none, none] [] KM RM I L 0 0 := by
  unfold fX12_lowest_b17 at hf
  refine j_iconst (v := (1 : Int32)) hc dX12_lowest_17 ci_1 ?_
  refine j_goto (tgt := 22) hc dX12_lowest_18 rfl ?_
  exact j_ireturn hc dX12_lowest_22 rfl rfl hf

set_option maxRecDepth 100000 in
def fX12_lowest (n d : Nat) (a0 : Int32) (a1 : Int32) (I : am_I) (L : am_L) : Option (Int32 × am_I × am_L) :=
  if a0 = (111 : Int32) then
    (fX12_lowest_b17 n d I L)
    else
    (if a0 = (109 : Int32) then
      (if a1 = (2 : Int32) then
        (fX12_lowest_b17 n d I L)
        else
        (some ((0 : Int32), I, L)))
      else
      (some ((0 : Int32), I, L)))

set_option maxRecDepth 100000 in
set_option maxHeartbeats 4000000 in
theorem tX12_lowest {x : am_X} (n d : Nat) (hc : am_ok x cX12_lowest yX12_lowest 2 (some .int) (d + 1) 0 0) {r : Int32} {I' : am_I} {L' : am_L} (a0 : Int32) (a1 : Int32) (I : am_I) (L : am_L) (hf : fX12_lowest n d a0 a1 I L = some (r, I', L')) : am_J x (fun S => S = (some (.int r), KM, RM, I', L')) 0 [some (.int a0), some (.int a1)] [] KM RM I L 0 0 := by
  unfold fX12_lowest at hf
  refine j_iload_n hc dX12_lowest_0 rfl ?_
  refine j_bipush (v := (111 : Int32)) hc dX12_lowest_1 cb_111 ?_
  refine j_icmp_eq (tgt := 17) hc dX12_lowest_3 rfl hf (fun hf => ?_) (fun hf => ?_)
  · exact j_sub (tX12_lowest_b17 n d hc _ _ hf) (trivial)
  · refine j_iload_n hc dX12_lowest_6 rfl ?_
    refine j_bipush (v := (109 : Int32)) hc dX12_lowest_7 cb_109 ?_
    refine j_icmp_ne (tgt := 21) hc dX12_lowest_9 rfl hf (fun hf => ?_) (fun hf => ?_)
    · refine j_iconst (v := (0 : Int32)) hc dX12_lowest_21 ci_0 ?_
      exact j_ireturn hc dX12_lowest_22 rfl rfl hf
    · refine j_iload_n hc dX12_lowest_12 rfl ?_
      refine j_iconst (v := (2 : Int32)) hc dX12_lowest_13 ci_2 ?_
      refine j_icmp_ne (tgt := 21) hc dX12_lowest_14 rfl hf (fun hf => ?_) (fun hf => ?_)
      · refine j_iconst (v := (0 : Int32)) hc dX12_lowest_21 ci_0 ?_
        exact j_ireturn hc dX12_lowest_22 rfl rfl hf
      · exact j_sub (tX12_lowest_b17 n d hc _ _ hf) (trivial)

set_option maxRecDepth 100000 in
theorem qX12_lowest (l : Launch) (n d : Nat) (a0 : Int32) (a1 : Int32) (I : am_I) (L : am_L) (r : Int32) (I' : am_I) (L' : am_L) (hf : fX12_lowest n d a0 a1 I L = some (r, I', L')) : am_C l yX12_lowest cX12_lowest 2 (some .int) (d + 1) [.int a0, .int a1] KM RM I L (some (.int r)) I' L' := by
  exact am_intro (plainFor_of_name plX12) (fun _ _ => trivial) (Nat.le_of_ble_eq_true rfl) (fun x hl hc => by subst hl; exact j_sub (tX12_lowest n d hc _ _ _ _ hf) (And.intro rfl (And.intro rfl (trivial))))
set_option maxRecDepth 100000 in
def fX12_highest_b37 (n d : Nat) (I : am_I) (L : am_L) : Option (Int32 × am_I × am_L) :=
  some ((1 : Int32), I, L)

set_option maxRecDepth 100000 in
set_option maxHeartbeats 4000000 in
theorem tX12_highest_b37 {x : am_X} (n d : Nat) (hc : am_ok x cX12_highest yX12_highest 2 (some .int) (d + 1) 0 0) {r : Int32} {I' : am_I} {L' : am_L} (I : am_I) (L : am_L) (hf : fX12_highest_b37 n d I L = some (r, I', L')) : am_J x (fun S => S = (some (.int r), KM, RM, I', L')) 37 [none, none] [] KM RM I L 0 0 := by
  unfold fX12_highest_b37 at hf
  refine j_iconst (v := (1 : Int32)) hc dX12_highest_37 ci_1 ?_
  refine j_goto (tgt := 62) hc dX12_highest_38 rfl ?_
  exact j_ireturn hc dX12_highest_62 rfl rfl hf

set_option maxRecDepth 100000 in
def fX12_highest (n d : Nat) (a0 : Int32) (a1 : Int32) (I : am_I) (L : am_L) : Option (Int32 × am_I × am_L) :=
  if a0 = 109 then (if a1 = 0 then
      (fX12_highest_b37 n d I L)
      else
      (if a1 = (3 : Int32) then
        (fX12_highest_b37 n d I L)
        else
        (if a1 = (1 : Int32) then
          (some ((20 : Int32), I, L))
          else
          (if a1 = (2 : Int32) then
            (some ((5 : Int32), I, L))
            else
            (some ((9 : Int32), I, L)))))) else if a0 = 111 then (if a1 = 0 then
        (some ((20 : Int32), I, L))
        else
        (some ((9 : Int32), I, L))) else (if a1 = 0 then
        (some ((9 : Int32), I, L))
        else
        (some ((1 : Int32), I, L)))

set_option maxRecDepth 100000 in
set_option maxHeartbeats 4000000 in
theorem tX12_highest {x : am_X} (n d : Nat) (hc : am_ok x cX12_highest yX12_highest 2 (some .int) (d + 1) 0 0) {r : Int32} {I' : am_I} {L' : am_L} (a0 : Int32) (a1 : Int32) (I : am_I) (L : am_L) (hf : fX12_highest n d a0 a1 I L = some (r, I', L')) : am_J x (fun S => S = (some (.int r), KM, RM, I', L')) 0 [some (.int a0), some (.int a1)] [] KM RM I L 0 0 := by
  unfold fX12_highest at hf
  refine j_iload_n hc dX12_highest_0 rfl ?_
  by_cases q0 : a0 = 109
  · rw [if_pos q0] at hf
    refine j_look (off := 27) (tgt := 28) hc dX12_highest_1 (by decide) (by rw [q0]; try rfl) rfl ?_
    refine j_iload_n hc dX12_highest_28 rfl ?_
    refine j_if_eq (tgt := 37) hc dX12_highest_29 rfl hf (fun hf => ?_) (fun hf => ?_)
    · exact j_sub (tX12_highest_b37 n d hc _ _ hf) (trivial)
    · refine j_iload_n hc dX12_highest_32 rfl ?_
      refine j_iconst (v := (3 : Int32)) hc dX12_highest_33 ci_3 ?_
      refine j_icmp_ne (tgt := 41) hc dX12_highest_34 rfl hf (fun hf => ?_) (fun hf => ?_)
      · refine j_iload_n hc dX12_highest_41 rfl ?_
        refine j_iconst (v := (1 : Int32)) hc dX12_highest_42 ci_1 ?_
        refine j_icmp_ne (tgt := 51) hc dX12_highest_43 rfl hf (fun hf => ?_) (fun hf => ?_)
        · refine j_iload_n hc dX12_highest_51 rfl ?_
          refine j_iconst (v := (2 : Int32)) hc dX12_highest_52 ci_2 ?_
          refine j_icmp_ne (tgt := 60) hc dX12_highest_53 rfl hf (fun hf => ?_) (fun hf => ?_)
          · refine j_bipush (v := (9 : Int32)) hc dX12_highest_60 cb_9 ?_
            exact j_ireturn hc dX12_highest_62 rfl rfl hf
          · refine j_iconst (v := (5 : Int32)) hc dX12_highest_56 ci_5 ?_
            refine j_goto (tgt := 62) hc dX12_highest_57 rfl ?_
            exact j_ireturn hc dX12_highest_62 rfl rfl hf
        · refine j_bipush (v := (20 : Int32)) hc dX12_highest_46 cb_20 ?_
          refine j_goto (tgt := 62) hc dX12_highest_48 rfl ?_
          exact j_ireturn hc dX12_highest_62 rfl rfl hf
      · exact j_sub (tX12_highest_b37 n d hc _ _ hf) (trivial)
  · rw [if_neg q0] at hf
    by_cases q1 : a0 = 111
    · rw [if_pos q1] at hf
      refine j_look (off := 62) (tgt := 63) hc dX12_highest_1 (by decide) (by rw [q1]; try rfl) rfl ?_
      refine j_iload_n hc dX12_highest_63 rfl ?_
      refine j_if_ne (tgt := 72) hc dX12_highest_64 rfl hf (fun hf => ?_) (fun hf => ?_)
      · refine j_bipush (v := (9 : Int32)) hc dX12_highest_72 cb_9 ?_
        exact j_ireturn hc dX12_highest_74 rfl rfl hf
      · refine j_bipush (v := (20 : Int32)) hc dX12_highest_67 cb_20 ?_
        refine j_goto (tgt := 74) hc dX12_highest_69 rfl ?_
        exact j_ireturn hc dX12_highest_74 rfl rfl hf
    · rw [if_neg q1] at hf
      refine j_look (off := 74) (tgt := 75) hc dX12_highest_1 (by decide) ((lv_osw (a := 109) q0 rfl).trans ((lv_osw (a := 111) q1 rfl).trans rfl)) rfl ?_
      refine j_iload_n hc dX12_highest_75 rfl ?_
      refine j_if_ne (tgt := 84) hc dX12_highest_76 rfl hf (fun hf => ?_) (fun hf => ?_)
      · refine j_iconst (v := (1 : Int32)) hc dX12_highest_84 ci_1 ?_
        exact j_ireturn hc dX12_highest_85 rfl rfl hf
      · refine j_bipush (v := (9 : Int32)) hc dX12_highest_79 cb_9 ?_
        refine j_goto (tgt := 85) hc dX12_highest_81 rfl ?_
        exact j_ireturn hc dX12_highest_85 rfl rfl hf

set_option maxRecDepth 100000 in
theorem qX12_highest (l : Launch) (n d : Nat) (a0 : Int32) (a1 : Int32) (I : am_I) (L : am_L) (r : Int32) (I' : am_I) (L' : am_L) (hf : fX12_highest n d a0 a1 I L = some (r, I', L')) : am_C l yX12_highest cX12_highest 2 (some .int) (d + 1) [.int a0, .int a1] KM RM I L (some (.int r)) I' L' := by
  exact am_intro (plainFor_of_name plX12) (fun _ _ => trivial) (Nat.le_of_ble_eq_true rfl) (fun x hl hc => by subst hl; exact j_sub (tX12_highest n d hc _ _ _ _ hf) (And.intro rfl (And.intro rfl (trivial))))
set_option maxRecDepth 100000 in
def fX12_isDigit (n d : Nat) (a0 : Int32) (I : am_I) (L : am_L) : Option (Int32 × am_I × am_L) :=
  if a0 < (48 : Int32) then
    (some ((0 : Int32), I, L))
    else
    (if (57 : Int32) < a0 then
      (some ((0 : Int32), I, L))
      else
      (some ((1 : Int32), I, L)))

set_option maxRecDepth 100000 in
set_option maxHeartbeats 4000000 in
theorem tX12_isDigit {x : am_X} (n d : Nat) (hc : am_ok x cX12_isDigit yX12_isDigit 1 (some .boolean) (d + 1) 0 0) {r : Int32} {I' : am_I} {L' : am_L} (a0 : Int32) (I : am_I) (L : am_L) (hf : fX12_isDigit n d a0 I L = some (r, I', L')) : am_J x (fun S => S = (some (.int r), KM, RM, I', L')) 0 [some (.int a0)] [] KM RM I L 0 0 := by
  unfold fX12_isDigit at hf
  refine j_iload_n hc dX12_isDigit_0 rfl ?_
  refine j_bipush (v := (48 : Int32)) hc dX12_isDigit_1 cb_48 ?_
  refine j_icmp_lt (tgt := 16) hc dX12_isDigit_3 rfl hf (fun hf => ?_) (fun hf => ?_)
  · refine j_iconst (v := (0 : Int32)) hc dX12_isDigit_16 ci_0 ?_
    exact j_zret hc dX12_isDigit_17 rfl rfl (Or.inl rfl) hf
  · refine j_iload_n hc dX12_isDigit_6 rfl ?_
    refine j_bipush (v := (57 : Int32)) hc dX12_isDigit_7 cb_57 ?_
    refine j_icmp_gt (tgt := 16) hc dX12_isDigit_9 rfl hf (fun hf => ?_) (fun hf => ?_)
    · refine j_iconst (v := (0 : Int32)) hc dX12_isDigit_16 ci_0 ?_
      exact j_zret hc dX12_isDigit_17 rfl rfl (Or.inl rfl) hf
    · refine j_iconst (v := (1 : Int32)) hc dX12_isDigit_12 ci_1 ?_
      refine j_goto (tgt := 17) hc dX12_isDigit_13 rfl ?_
      exact j_zret hc dX12_isDigit_17 rfl rfl (Or.inr rfl) hf

set_option maxRecDepth 100000 in
theorem qX12_isDigit (l : Launch) (n d : Nat) (a0 : Int32) (I : am_I) (L : am_L) (r : Int32) (I' : am_I) (L' : am_L) (hf : fX12_isDigit n d a0 I L = some (r, I', L')) : am_C l yX12_isDigit cX12_isDigit 1 (some .boolean) (d + 1) [.int a0] KM RM I L (some (.int r)) I' L' := by
  exact am_intro (plainFor_of_name plX12) (fun _ _ => trivial) (Nat.le_of_ble_eq_true rfl) (fun x hl hc => by subst hl; exact j_sub (tX12_isDigit n d hc _ _ _ hf) (And.intro rfl (trivial)))
set_option maxRecDepth 100000 in
def fX12_bad_b20 (n d : Nat) (s1 : Int32) (I : am_I) (L : am_L) : Option (am_I × am_L) :=
  am_lt (am_up I 0 4 s1) (fun I1 => some (I1, L))

set_option maxRecDepth 100000 in
set_option maxHeartbeats 4000000 in
theorem tX12_bad_b20 {x : am_X} (n d : Nat) (hc : am_ok x cX12_bad yX12_bad 1 none (d + 1) 0 0) {I' : am_I} {L' : am_L} (s1 : Int32) (I : am_I) (L : am_L) (hf : fX12_bad_b20 n d s1 I L = some (I', L')) : am_J x (fun S => S = (none, KM, RM, I', L')) 20 [none] [.int s1, .ref 0] KM RM I L 0 0 := by
  unfold fX12_bad_b20 at hf
  refine j_putI hc dX12_bad_20 fpM_X12_108_0 rfl rfl hf (fun I1 hf => ?_)
  exact j_return hc dX12_bad_23 rfl rfl hf

set_option maxRecDepth 100000 in
def fX12_bad (n d : Nat) (I : am_I) (L : am_L) : Option (am_I × am_L) :=
  if (I 0 4) = (-1 : Int32) then
    (fX12_bad_b20 n d (I 0 3) I L)
    else
    (fX12_bad_b20 n d (I 0 4) I L)

set_option maxRecDepth 100000 in
set_option maxHeartbeats 4000000 in
theorem tX12_bad {x : am_X} (n d : Nat) (hc : am_ok x cX12_bad yX12_bad 1 none (d + 1) 0 0) {I' : am_I} {L' : am_L} (I : am_I) (L : am_L) (hf : fX12_bad n d I L = some (I', L')) : am_J x (fun S => S = (none, KM, RM, I', L')) 0 [some (.ref 0)] [] KM RM I L 0 0 := by
  unfold fX12_bad at hf
  refine j_aload_n hc dX12_bad_0 rfl ?_
  refine j_aload_n hc dX12_bad_1 rfl ?_
  refine j_getI hc dX12_bad_2 fgM_X12_108_0 ?_
  refine j_iconst (v := (-1 : Int32)) hc dX12_bad_5 ci_m1 ?_
  refine j_icmp_ne (tgt := 16) hc dX12_bad_6 rfl hf (fun hf => ?_) (fun hf => ?_)
  · refine j_aload_n hc dX12_bad_16 rfl ?_
    refine j_getI hc dX12_bad_17 fgM_X12_108_0 ?_
    exact j_sub (tX12_bad_b20 n d hc _ _ _ hf) (trivial)
  · refine j_aload_n hc dX12_bad_9 rfl ?_
    refine j_getI hc dX12_bad_10 fgM_X12_101_0 ?_
    refine j_goto (tgt := 20) hc dX12_bad_13 rfl ?_
    exact j_sub (tX12_bad_b20 n d hc _ _ _ hf) (trivial)

set_option maxRecDepth 100000 in
theorem qX12_bad (l : Launch) (n d : Nat) (I : am_I) (L : am_L) (I' : am_I) (L' : am_L) (hf : fX12_bad n d I L = some (I', L')) : am_C l yX12_bad cX12_bad 1 none (d + 1) [.ref 0] KM RM I L none I' L' := by
  exact am_intro (plainFor_of_name plX12) (fun _ _ => trivial) (Nat.le_of_ble_eq_true rfl) (fun x hl hc => by subst hl; exact j_sub (tX12_bad n d hc  _ _ hf) (And.intro rfl (trivial)))
set_option maxRecDepth 100000 in
def fX12_in (n d : Nat) (a0 : Int32) (a1 : Int32) (a2 : Int32) (I : am_I) (L : am_L) : Option (Int32 × am_I × am_L) :=
  if a0 < a1 then
    (some ((0 : Int32), I, L))
    else
    (if a2 < a0 then
      (some ((0 : Int32), I, L))
      else
      (some ((1 : Int32), I, L)))

set_option maxRecDepth 100000 in
set_option maxHeartbeats 4000000 in
theorem tX12_in {x : am_X} (n d : Nat) (hc : am_ok x cX12_in yX12_in 3 (some .boolean) (d + 1) 0 0) {r : Int32} {I' : am_I} {L' : am_L} (a0 : Int32) (a1 : Int32) (a2 : Int32) (I : am_I) (L : am_L) (hf : fX12_in n d a0 a1 a2 I L = some (r, I', L')) : am_J x (fun S => S = (some (.int r), KM, RM, I', L')) 0 [some (.int a0), some (.int a1), some (.int a2)] [] KM RM I L 0 0 := by
  unfold fX12_in at hf
  refine j_iload_n hc dX12_in_0 rfl ?_
  refine j_iload_n hc dX12_in_1 rfl ?_
  refine j_icmp_lt (tgt := 14) hc dX12_in_2 rfl hf (fun hf => ?_) (fun hf => ?_)
  · refine j_iconst (v := (0 : Int32)) hc dX12_in_14 ci_0 ?_
    exact j_zret hc dX12_in_15 rfl rfl (Or.inl rfl) hf
  · refine j_iload_n hc dX12_in_5 rfl ?_
    refine j_iload_n hc dX12_in_6 rfl ?_
    refine j_icmp_gt (tgt := 14) hc dX12_in_7 rfl hf (fun hf => ?_) (fun hf => ?_)
    · refine j_iconst (v := (0 : Int32)) hc dX12_in_14 ci_0 ?_
      exact j_zret hc dX12_in_15 rfl rfl (Or.inl rfl) hf
    · refine j_iconst (v := (1 : Int32)) hc dX12_in_10 ci_1 ?_
      refine j_goto (tgt := 15) hc dX12_in_11 rfl ?_
      exact j_zret hc dX12_in_15 rfl rfl (Or.inr rfl) hf

set_option maxRecDepth 100000 in
theorem qX12_in (l : Launch) (n d : Nat) (a0 : Int32) (a1 : Int32) (a2 : Int32) (I : am_I) (L : am_L) (r : Int32) (I' : am_I) (L' : am_L) (hf : fX12_in n d a0 a1 a2 I L = some (r, I', L')) : am_C l yX12_in cX12_in 3 (some .boolean) (d + 1) [.int a0, .int a1, .int a2] KM RM I L (some (.int r)) I' L' := by
  exact am_intro (plainFor_of_name plX12) (fun _ _ => trivial) (Nat.le_of_ble_eq_true rfl) (fun x hl hc => by subst hl; exact j_sub (tX12_in n d hc _ _ _ _ _ hf) (And.intro rfl (And.intro rfl (And.intro rfl (trivial)))))
set_option maxRecDepth 100000 in
def fX12_number_b67 (n d : Nat) (a1 : Int32) (a2 : Int32) (a3 : Int32) (I : am_I) (L : am_L) : Option (Int32 × am_I × am_L) :=
  am_b3 (fX12_here n d I L) (fun v1 I1 L1 => am_b3 (fX12_isDigit n d v1 I1 L1) (fun v2 I2 L2 => if v2 = 0 then
    (am_b3 (fX12_in n d a3 a1 a2 I2 L2) (fun v3 I3 L3 => if v3 = 0 then
      (am_lt (am_up I3 0 3 ((I3 0 3) - (1 : Int32))) (fun I4 => am_b2 (fX12_bad n d I4 L3) (fun I5 L5 => some (a3, I5, L5))))
      else
      (some (a3, I3, L3))))
    else
    (am_b2 (fX12_bad n d I2 L2) (fun I6 L6 => some (a3, I6, L6)))))

set_option maxRecDepth 100000 in
set_option maxHeartbeats 4000000 in
theorem tX12_number_b67 {x : am_X} (n d : Nat) (hc : am_ok x cX12_number yX12_number 4 (some .int) (d + 3) 0 0) {r : Int32} {I' : am_I} {L' : am_L} (a1 : Int32) (a2 : Int32) (a3 : Int32) (I : am_I) (L : am_L) (hf : fX12_number_b67 n d a1 a2 a3 I L = some (r, I', L')) : am_J x (fun S => S = (some (.int r), KM, RM, I', L')) 67 [some (.ref 0), some (.int a1), some (.int a2), some (.int a3)] [] KM RM I L 0 0 := by
  unfold fX12_number_b67 at hf
  refine j_aload_n hc dX12_number_67 rfl ?_
  refine j_callVI (t := 0) (As := []) hc dX12_number_68 kw_1640 mX12_here kM_0 clX12 rfl (by omega) (Nat.le_of_ble_eq_true rfl) (Nat.le_of_ble_eq_true rfl) ⟨Nat.le_refl _, Nat.le_refl _⟩ hf (fun v I' L' h => qX12_here x.2.1 n d I L v I' L' h) (fun v1 I1 L1 hf => ?_)
  refine j_callSI (As := [.int v1]) hc dX12_number_71 kw_1664 mX12_isDigit  rfl (by omega) (Nat.le_of_ble_eq_true rfl) (Nat.le_of_ble_eq_true rfl) ⟨Nat.le_refl _, Nat.le_refl _⟩ hf (fun v I' L' h => qX12_isDigit x.2.1 n d v1 I1 L1 v I' L' h) (fun v2 I2 L2 hf => ?_)
  refine j_if_eq (tgt := 84) hc dX12_number_74 rfl hf (fun hf => ?_) (fun hf => ?_)
  · refine j_iload_n hc dX12_number_84 rfl ?_
    refine j_iload_n hc dX12_number_85 rfl ?_
    refine j_iload_n hc dX12_number_86 rfl ?_
    refine j_callSI (As := [.int a3, .int a1, .int a2]) hc dX12_number_87 kw_1671 mX12_in  rfl (by omega) (Nat.le_of_ble_eq_true rfl) (Nat.le_of_ble_eq_true rfl) ⟨Nat.le_refl _, Nat.le_refl _⟩ hf (fun v I' L' h => qX12_in x.2.1 n d a3 a1 a2 I2 L2 v I' L' h) (fun v3 I3 L3 hf => ?_)
    refine j_if_ne (tgt := 107) hc dX12_number_90 rfl hf (fun hf => ?_) (fun hf => ?_)
    · refine j_iload_n hc dX12_number_107 rfl ?_
      exact j_ireturn hc dX12_number_108 rfl rfl hf
    · refine j_aload_n hc dX12_number_93 rfl ?_
      refine j_dup hc dX12_number_94 rfl ?_
      refine j_getI hc dX12_number_95 fgM_X12_101_0 ?_
      refine j_iconst (v := (1 : Int32)) hc dX12_number_98 ci_1 ?_
      refine j_isub hc dX12_number_99 ?_
      refine j_putI hc dX12_number_100 fpM_X12_101_0 rfl rfl hf (fun I4 hf => ?_)
      refine j_aload_n hc dX12_number_103 rfl ?_
      refine j_callVV (t := 0) (As := []) hc dX12_number_104 kw_1667 mX12_bad kM_0 clX12 rfl (by omega) (Nat.le_of_ble_eq_true rfl) (Nat.le_of_ble_eq_true rfl) ⟨Nat.le_refl _, Nat.le_refl _⟩ hf (fun I' L' h => qX12_bad x.2.1 n d I4 L3 I' L' h) (fun I5 L5 hf => ?_)
      refine j_iload_n hc dX12_number_107 rfl ?_
      exact j_ireturn hc dX12_number_108 rfl rfl hf
  · refine j_aload_n hc dX12_number_77 rfl ?_
    refine j_callVV (t := 0) (As := []) hc dX12_number_78 kw_1667 mX12_bad kM_0 clX12 rfl (by omega) (Nat.le_of_ble_eq_true rfl) (Nat.le_of_ble_eq_true rfl) ⟨Nat.le_refl _, Nat.le_refl _⟩ hf (fun I' L' h => qX12_bad x.2.1 n d I2 L2 I' L' h) (fun I6 L6 hf => ?_)
    refine j_goto (tgt := 107) hc dX12_number_81 rfl ?_
    refine j_iload_n hc dX12_number_107 rfl ?_
    exact j_ireturn hc dX12_number_108 rfl rfl hf

set_option maxRecDepth 100000 in
def fX12_number (n d : Nat) (a1 : Int32) (a2 : Int32) (I : am_I) (L : am_L) : Option (Int32 × am_I × am_L) :=
  am_b3 (fX12_look n d I L) (fun v1 I1 L1 => am_b3 (fX12_isDigit n d v1 I1 L1) (fun v2 I2 L2 => if v2 = 0 then
    (am_b2 (fX12_bad n d I2 L2) (fun I11 L11 => some (a1, I11, L11)))
    else
    (am_b3 (fX12_here n d I2 L2) (fun v3 I3 L3 => am_lt (v3 - (48 : Int32)) (fun v4 => am_lt (am_up I3 0 3 ((I3 0 3) + (1 : Int32))) (fun I5 => am_b3 (fX12_here n d I5 L3) (fun v6 I6 L6 => am_b3 (fX12_isDigit n d v6 I6 L6) (fun v7 I7 L7 => if v7 = 0 then
      (fX12_number_b67 n d a1 a2 v4 I7 L7)
      else
      (am_b3 (fX12_here n d I7 L7) (fun v8 I8 L8 => am_lt ((((10 : Int32) * v4) + v8) - (48 : Int32)) (fun v9 => am_lt (am_up I8 0 3 ((I8 0 3) + (1 : Int32))) (fun I10 => fX12_number_b67 n d a1 a2 v9 I10 L8))))))))))))

set_option maxRecDepth 100000 in
set_option maxHeartbeats 4000000 in
theorem tX12_number {x : am_X} (n d : Nat) (hc : am_ok x cX12_number yX12_number 4 (some .int) (d + 3) 0 0) {r : Int32} {I' : am_I} {L' : am_L} (a1 : Int32) (a2 : Int32) (I : am_I) (L : am_L) (hf : fX12_number n d a1 a2 I L = some (r, I', L')) : am_J x (fun S => S = (some (.int r), KM, RM, I', L')) 0 [some (.ref 0), some (.int a1), some (.int a2), none] [] KM RM I L 0 0 := by
  unfold fX12_number at hf
  refine j_aload_n hc dX12_number_0 rfl ?_
  refine j_callVI (t := 0) (As := []) hc dX12_number_1 kw_1636 mX12_look kM_0 clX12 rfl (by omega) (Nat.le_of_ble_eq_true rfl) (Nat.le_of_ble_eq_true rfl) ⟨Nat.le_refl _, Nat.le_refl _⟩ hf (fun v I' L' h => qX12_look x.2.1 n d I L v I' L' h) (fun v1 I1 L1 hf => ?_)
  refine j_callSI (As := [.int v1]) hc dX12_number_4 kw_1664 mX12_isDigit  rfl (by omega) (Nat.le_of_ble_eq_true rfl) (Nat.le_of_ble_eq_true rfl) ⟨Nat.le_refl _, Nat.le_refl _⟩ hf (fun v I' L' h => qX12_isDigit x.2.1 n d v1 I1 L1 v I' L' h) (fun v2 I2 L2 hf => ?_)
  refine j_if_ne (tgt := 16) hc dX12_number_7 rfl hf (fun hf => ?_) (fun hf => ?_)
  · refine j_aload_n hc dX12_number_16 rfl ?_
    refine j_callVI (t := 0) (As := []) hc dX12_number_17 kw_1640 mX12_here kM_0 clX12 rfl (by omega) (Nat.le_of_ble_eq_true rfl) (Nat.le_of_ble_eq_true rfl) ⟨Nat.le_refl _, Nat.le_refl _⟩ hf (fun v I' L' h => qX12_here x.2.1 n d I2 L2 v I' L' h) (fun v3 I3 L3 hf => ?_)
    refine j_bipush (v := (48 : Int32)) hc dX12_number_20 cb_48 ?_
    refine j_isub hc dX12_number_22 ?_
    refine j_istore_n hc dX12_number_23 (Nat.le_of_ble_eq_true rfl) hf (fun v4 hf => ?_)
    refine j_aload_n hc dX12_number_24 rfl ?_
    refine j_dup hc dX12_number_25 rfl ?_
    refine j_getI hc dX12_number_26 fgM_X12_101_0 ?_
    refine j_iconst (v := (1 : Int32)) hc dX12_number_29 ci_1 ?_
    refine j_iadd hc dX12_number_30 ?_
    refine j_putI hc dX12_number_31 fpM_X12_101_0 rfl rfl hf (fun I5 hf => ?_)
    refine j_aload_n hc dX12_number_34 rfl ?_
    refine j_callVI (t := 0) (As := []) hc dX12_number_35 kw_1640 mX12_here kM_0 clX12 rfl (by omega) (Nat.le_of_ble_eq_true rfl) (Nat.le_of_ble_eq_true rfl) ⟨Nat.le_refl _, Nat.le_refl _⟩ hf (fun v I' L' h => qX12_here x.2.1 n d I5 L3 v I' L' h) (fun v6 I6 L6 hf => ?_)
    refine j_callSI (As := [.int v6]) hc dX12_number_38 kw_1664 mX12_isDigit  rfl (by omega) (Nat.le_of_ble_eq_true rfl) (Nat.le_of_ble_eq_true rfl) ⟨Nat.le_refl _, Nat.le_refl _⟩ hf (fun v I' L' h => qX12_isDigit x.2.1 n d v6 I6 L6 v I' L' h) (fun v7 I7 L7 hf => ?_)
    refine j_if_eq (tgt := 67) hc dX12_number_41 rfl hf (fun hf => ?_) (fun hf => ?_)
    · exact j_sub (tX12_number_b67 n d hc _ _ _ _ _ hf) (And.intro rfl (And.intro rfl (And.intro rfl (And.intro rfl (trivial)))))
    · refine j_bipush (v := (10 : Int32)) hc dX12_number_44 cb_10 ?_
      refine j_iload_n hc dX12_number_46 rfl ?_
      refine j_imul hc dX12_number_47 ?_
      refine j_aload_n hc dX12_number_48 rfl ?_
      refine j_callVI (t := 0) (As := []) hc dX12_number_49 kw_1640 mX12_here kM_0 clX12 rfl (by omega) (Nat.le_of_ble_eq_true rfl) (Nat.le_of_ble_eq_true rfl) ⟨Nat.le_refl _, Nat.le_refl _⟩ hf (fun v I' L' h => qX12_here x.2.1 n d I7 L7 v I' L' h) (fun v8 I8 L8 hf => ?_)
      refine j_iadd hc dX12_number_52 ?_
      refine j_bipush (v := (48 : Int32)) hc dX12_number_53 cb_48 ?_
      refine j_isub hc dX12_number_55 ?_
      refine j_istore_n hc dX12_number_56 (Nat.le_of_ble_eq_true rfl) hf (fun v9 hf => ?_)
      refine j_aload_n hc dX12_number_57 rfl ?_
      refine j_dup hc dX12_number_58 rfl ?_
      refine j_getI hc dX12_number_59 fgM_X12_101_0 ?_
      refine j_iconst (v := (1 : Int32)) hc dX12_number_62 ci_1 ?_
      refine j_iadd hc dX12_number_63 ?_
      refine j_putI hc dX12_number_64 fpM_X12_101_0 rfl rfl hf (fun I10 hf => ?_)
      exact j_sub (tX12_number_b67 n d hc _ _ _ _ _ hf) (And.intro rfl (And.intro rfl (And.intro rfl (And.intro rfl (trivial)))))
  · refine j_aload_n hc dX12_number_10 rfl ?_
    refine j_callVV (t := 0) (As := []) hc dX12_number_11 kw_1667 mX12_bad kM_0 clX12 rfl (by omega) (Nat.le_of_ble_eq_true rfl) (Nat.le_of_ble_eq_true rfl) ⟨Nat.le_refl _, Nat.le_refl _⟩ hf (fun I' L' h => qX12_bad x.2.1 n d I2 L2 I' L' h) (fun I11 L11 hf => ?_)
    refine j_iload_n hc dX12_number_14 rfl ?_
    exact j_ireturn hc dX12_number_15 rfl rfl hf

set_option maxRecDepth 100000 in
theorem qX12_number (l : Launch) (n d : Nat) (a1 : Int32) (a2 : Int32) (I : am_I) (L : am_L) (r : Int32) (I' : am_I) (L' : am_L) (hf : fX12_number n d a1 a2 I L = some (r, I', L')) : am_C l yX12_number cX12_number 4 (some .int) (d + 3) [.ref 0, .int a1, .int a2] KM RM I L (some (.int r)) I' L' := by
  exact am_intro (plainFor_of_name plX12) (fun _ _ => trivial) (Nat.le_of_ble_eq_true rfl) (fun x hl hc => by subst hl; exact j_sub (tX12_number n d hc _ _ _ _ hf) (And.intro rfl (And.intro rfl (And.intro rfl (trivial)))))
set_option maxRecDepth 100000 in
def fX12_items_readMan_b126 (n d : Nat) (k41 : Int32 → Int32 → Int32 → Int32 → am_I → am_L → Option (am_I × am_L)) (s0 : Int32) (a1 : Int32) (a3 : Int32) (a5 : Int32) (I : am_I) (L : am_L) : Option (am_I × am_L) :=
  am_lt s0 (fun v1 => k41 a1 a3 a5 v1 I L)

set_option maxRecDepth 100000 in
set_option maxHeartbeats 4000000 in
theorem tX12_items_readMan_b126 {x : am_X} (n d : Nat) (hc : am_ok x cX12_items yX12_items 7 none (d + 4) 0 0) {I' : am_I} {L' : am_L} (k41 : Int32 → Int32 → Int32 → Int32 → am_I → am_L → Option (am_I × am_L)) (hk41 : ∀ (a1 : Int32) (a3 : Int32) (a5 : Int32) (a6 : Int32) (I : am_I) (L : am_L), k41 a1 a3 a5 a6 I L = some (I', L') → am_J x (fun S => S = (none, KM, RM, I', L')) 41 [some (.ref 0), some (.int a1), some (.ref 11), some (.int a3), none, some (.int a5), some (.int a6)] [] KM RM I L 0 0) (s0 : Int32) (a1 : Int32) (a3 : Int32) (a5 : Int32) (I : am_I) (L : am_L) (hf : fX12_items_readMan_b126 n d k41 s0 a1 a3 a5 I L = some (I', L')) : am_J x (fun S => S = (none, KM, RM, I', L')) 126 [some (.ref 0), some (.int a1), some (.ref 11), some (.int a3), none, some (.int a5), none] [.int s0] KM RM I L 0 0 := by
  unfold fX12_items_readMan_b126 at hf
  refine j_istore hc dX12_items_126 (Nat.le_of_ble_eq_true rfl) hf (fun v1 hf => ?_)
  refine j_goto (tgt := 41) hc dX12_items_128 rfl ?_
  exact j_sub (hk41 _ _ _ _ _ _ hf) (And.intro rfl (And.intro rfl (And.intro rfl (And.intro rfl (And.intro rfl (And.intro rfl (trivial)))))))

set_option maxRecDepth 100000 in
def fX12_items_readMan_b41w (n d : Nat) (k41 : Int32 → Int32 → Int32 → Int32 → am_I → am_L → Option (am_I × am_L)) (a1 : Int32) (a3 : Int32) (a5 : Int32) (a6 : Int32) (I : am_I) (L : am_L) : Option (am_I × am_L) :=
  if (I 0 4) = (-1 : Int32) then
    (if a6 = (-1 : Int32) then
      (some (I, L))
      else
      (am_b3 (fX12_has n d a5 a6 I L) (fun v1 I1 L1 => if v1 = 0 then
        (am_lt (a5 ||| ((1 : Int32) <<< (a6 &&& 31))) (fun v2 => am_lt (am_up I1 0 3 ((I1 0 3) + (1 : Int32))) (fun I3 => am_b3 (fX12_lowest n d a1 a6 I3 L1) (fun v4 I4 L4 => am_b3 (fX12_highest n d a1 a6 I4 L4) (fun v5 I5 L5 => am_b3 (fX12_number n d v4 v5 I5 L5) (fun v6 I6 L6 => am_ck (a3 + a6) 48 (am_lt (am_up I6 11 ((a3 + a6)).toNatClampNeg v6) (fun I7 => if (I7 0 4) = (-1 : Int32) then
          (am_b3 (fX12_look n d I7 L6) (fun v8 I8 L8 => am_b3 (fX12_itemOf n d a1 v8 I8 L8) (fun v9 I9 L9 => fX12_items_readMan_b126 n d k41 v9 a1 a3 v2 I9 L9)))
          else
          (fX12_items_readMan_b126 n d k41 (-1 : Int32) a1 a3 v2 I7 L6)))))))))
        else
        (some (I1, L1)))))
    else
    (some (I, L))

set_option maxRecDepth 100000 in
set_option maxHeartbeats 4000000 in
theorem tX12_items_readMan_b41w {x : am_X} (n d : Nat) (hc : am_ok x cX12_items yX12_items 7 none (d + 4) 0 0) {I' : am_I} {L' : am_L} (k41 : Int32 → Int32 → Int32 → Int32 → am_I → am_L → Option (am_I × am_L)) (hk41 : ∀ (a1 : Int32) (a3 : Int32) (a5 : Int32) (a6 : Int32) (I : am_I) (L : am_L), k41 a1 a3 a5 a6 I L = some (I', L') → am_J x (fun S => S = (none, KM, RM, I', L')) 41 [some (.ref 0), some (.int a1), some (.ref 11), some (.int a3), none, some (.int a5), some (.int a6)] [] KM RM I L 0 0) (a1 : Int32) (a3 : Int32) (a5 : Int32) (a6 : Int32) (I : am_I) (L : am_L) (hf : fX12_items_readMan_b41w n d k41 a1 a3 a5 a6 I L = some (I', L')) : am_J x (fun S => S = (none, KM, RM, I', L')) 41 [some (.ref 0), some (.int a1), some (.ref 11), some (.int a3), none, some (.int a5), some (.int a6)] [] KM RM I L 0 0 := by
  unfold fX12_items_readMan_b41w at hf
  refine j_aload_n hc dX12_items_41 rfl ?_
  refine j_getI hc dX12_items_42 fgM_X12_108_0 ?_
  refine j_iconst (v := (-1 : Int32)) hc dX12_items_45 ci_m1 ?_
  refine j_icmp_ne (tgt := 131) hc dX12_items_46 rfl hf (fun hf => ?_) (fun hf => ?_)
  · exact j_return hc dX12_items_131 rfl rfl hf
  · refine j_iload hc dX12_items_49 rfl ?_
    refine j_iconst (v := (-1 : Int32)) hc dX12_items_51 ci_m1 ?_
    refine j_icmp_eq (tgt := 131) hc dX12_items_52 rfl hf (fun hf => ?_) (fun hf => ?_)
    · exact j_return hc dX12_items_131 rfl rfl hf
    · refine j_iload hc dX12_items_55 rfl ?_
      refine j_iload hc dX12_items_57 rfl ?_
      refine j_callSI (As := [.int a5, .int a6]) hc dX12_items_59 kw_1651 mX12_has  rfl (by omega) (Nat.le_of_ble_eq_true rfl) (Nat.le_of_ble_eq_true rfl) ⟨Nat.le_refl _, Nat.le_refl _⟩ hf (fun v I' L' h => qX12_has x.2.1 n d a5 a6 I L v I' L' h) (fun v1 I1 L1 hf => ?_)
      refine j_if_ne (tgt := 131) hc dX12_items_62 rfl hf (fun hf => ?_) (fun hf => ?_)
      · exact j_return hc dX12_items_131 rfl rfl hf
      · refine j_iload hc dX12_items_65 rfl ?_
        refine j_iconst (v := (1 : Int32)) hc dX12_items_67 ci_1 ?_
        refine j_iload hc dX12_items_68 rfl ?_
        refine j_ishl hc dX12_items_70 ?_
        refine j_ior hc dX12_items_71 ?_
        refine j_istore hc dX12_items_72 (Nat.le_of_ble_eq_true rfl) hf (fun v2 hf => ?_)
        refine j_aload_n hc dX12_items_74 rfl ?_
        refine j_dup hc dX12_items_75 rfl ?_
        refine j_getI hc dX12_items_76 fgM_X12_101_0 ?_
        refine j_iconst (v := (1 : Int32)) hc dX12_items_79 ci_1 ?_
        refine j_iadd hc dX12_items_80 ?_
        refine j_putI hc dX12_items_81 fpM_X12_101_0 rfl rfl hf (fun I3 hf => ?_)
        refine j_aload_n hc dX12_items_84 rfl ?_
        refine j_iload_n hc dX12_items_85 rfl ?_
        refine j_iload hc dX12_items_86 rfl ?_
        refine j_iadd hc dX12_items_88 ?_
        refine j_aload_n hc dX12_items_89 rfl ?_
        refine j_iload_n hc dX12_items_90 rfl ?_
        refine j_iload hc dX12_items_91 rfl ?_
        refine j_callSI (As := [.int a1, .int a6]) hc dX12_items_93 kw_1654 mX12_lowest  rfl (by omega) (Nat.le_of_ble_eq_true rfl) (Nat.le_of_ble_eq_true rfl) ⟨Nat.le_refl _, Nat.le_refl _⟩ hf (fun v I' L' h => qX12_lowest x.2.1 n d a1 a6 I3 L1 v I' L' h) (fun v4 I4 L4 hf => ?_)
        refine j_iload_n hc dX12_items_96 rfl ?_
        refine j_iload hc dX12_items_97 rfl ?_
        refine j_callSI (As := [.int a1, .int a6]) hc dX12_items_99 kw_1657 mX12_highest  rfl (by omega) (Nat.le_of_ble_eq_true rfl) (Nat.le_of_ble_eq_true rfl) ⟨Nat.le_refl _, Nat.le_refl _⟩ hf (fun v I' L' h => qX12_highest x.2.1 n d a1 a6 I4 L4 v I' L' h) (fun v5 I5 L5 hf => ?_)
        refine j_callVI (t := 0) (As := [.int v4, .int v5]) hc dX12_items_102 kw_1660 mX12_number kM_0 clX12 rfl (by omega) (Nat.le_of_ble_eq_true rfl) (Nat.le_of_ble_eq_true rfl) ⟨Nat.le_refl _, Nat.le_refl _⟩ hf (fun v I' L' h => qX12_number x.2.1 n d v4 v5 I5 L5 v I' L' h) (fun v6 I6 L6 hf => ?_)
        refine j_iastore (n := 48) hc dX12_items_105 kM_11 hf (fun I7 hf => ?_)
        refine j_aload_n hc dX12_items_106 rfl ?_
        refine j_getI hc dX12_items_107 fgM_X12_108_0 ?_
        refine j_iconst (v := (-1 : Int32)) hc dX12_items_110 ci_m1 ?_
        refine j_icmp_ne (tgt := 125) hc dX12_items_111 rfl hf (fun hf => ?_) (fun hf => ?_)
        · refine j_iconst (v := (-1 : Int32)) hc dX12_items_125 ci_m1 ?_
          exact j_sub (tX12_items_readMan_b126 n d hc k41 hk41 _ _ _ _ _ _ hf) (And.intro rfl (And.intro rfl (And.intro rfl (And.intro rfl (And.intro rfl (trivial))))))
        · refine j_iload_n hc dX12_items_114 rfl ?_
          refine j_aload_n hc dX12_items_115 rfl ?_
          refine j_callVI (t := 0) (As := []) hc dX12_items_116 kw_1636 mX12_look kM_0 clX12 rfl (by omega) (Nat.le_of_ble_eq_true rfl) (Nat.le_of_ble_eq_true rfl) ⟨Nat.le_refl _, Nat.le_refl _⟩ hf (fun v I' L' h => qX12_look x.2.1 n d I7 L6 v I' L' h) (fun v8 I8 L8 hf => ?_)
          refine j_callSI (As := [.int a1, .int v8]) hc dX12_items_119 kw_1648 mX12_itemOf  rfl (by omega) (Nat.le_of_ble_eq_true rfl) (Nat.le_of_ble_eq_true rfl) ⟨Nat.le_refl _, Nat.le_refl _⟩ hf (fun v I' L' h => qX12_itemOf x.2.1 n d a1 v8 I8 L8 v I' L' h) (fun v9 I9 L9 hf => ?_)
          refine j_goto (tgt := 126) hc dX12_items_122 rfl ?_
          exact j_sub (tX12_items_readMan_b126 n d hc k41 hk41 _ _ _ _ _ _ hf) (And.intro rfl (And.intro rfl (And.intro rfl (And.intro rfl (And.intro rfl (trivial))))))

def fX12_items_readMan_b41 (n d : Nat) : Nat → Int32 → Int32 → Int32 → Int32 → am_I → am_L → Option (am_I × am_L)
  | 0 => fun _ _ _ _ _ _ => none
  | m + 1 => fX12_items_readMan_b41w n d  (fX12_items_readMan_b41 n d m)

set_option maxRecDepth 100000 in
theorem tX12_items_readMan_b41 {x : am_X} (n d : Nat) (hc : am_ok x cX12_items yX12_items 7 none (d + 4) 0 0) {I' : am_I} {L' : am_L} (m : Nat) : ∀ (a1 : Int32) (a3 : Int32) (a5 : Int32) (a6 : Int32) (I : am_I) (L : am_L) (hf : fX12_items_readMan_b41 n d m a1 a3 a5 a6 I L = some (I', L')), am_J x (fun S => S = (none, KM, RM, I', L')) 41 [some (.ref 0), some (.int a1), some (.ref 11), some (.int a3), none, some (.int a5), some (.int a6)] [] KM RM I L 0 0 := by
  induction m with
  | zero => intro a1 a3 a5 a6 I L hf; exact (Option.some_ne_none _ hf.symm).elim
  | succ m ih => intro a1 a3 a5 a6 I L hf; exact tX12_items_readMan_b41w n d hc (fX12_items_readMan_b41 n d m) ih a1 a3 a5 a6 I L hf

set_option maxRecDepth 100000 in
def fX12_items_readMan_b3w (n d : Nat) (k3 : Int32 → Int32 → Int32 → Int32 → am_I → am_L → Option (am_I × am_L)) (a1 : Int32) (a3 : Int32) (a4 : Int32) (a5 : Int32) (I : am_I) (L : am_L) : Option (am_I × am_L) :=
  if a4 ≤ a5 then
    (am_lt (0 : Int32) (fun v1 => am_b3 (fX12_look n d I L) (fun v2 I2 L2 => am_b3 (fX12_itemOf n d a1 v2 I2 L2) (fun v3 I3 L3 => am_lt v3 (fun v4 => fX12_items_readMan_b41 n d n a1 a3 v1 v4 I3 L3)))))
    else
    (am_b3 (fX12_usual n d a1 a5 I L) (fun v5 I5 L5 => am_ck (a3 + a5) 48 (am_lt (am_up I5 11 ((a3 + a5)).toNatClampNeg v5) (fun I6 => am_lt (a5 + (1 : Int32)) (fun v7 => k3 a1 a3 a4 v7 I6 L5)))))

set_option maxRecDepth 100000 in
set_option maxHeartbeats 4000000 in
theorem tX12_items_readMan_b3w {x : am_X} (n d : Nat) (hc : am_ok x cX12_items yX12_items 7 none (d + 4) 0 0) {I' : am_I} {L' : am_L} (k3 : Int32 → Int32 → Int32 → Int32 → am_I → am_L → Option (am_I × am_L)) (hk3 : ∀ (a1 : Int32) (a3 : Int32) (a4 : Int32) (a5 : Int32) (I : am_I) (L : am_L), k3 a1 a3 a4 a5 I L = some (I', L') → am_J x (fun S => S = (none, KM, RM, I', L')) 3 [some (.ref 0), some (.int a1), some (.ref 11), some (.int a3), some (.int a4), some (.int a5), none] [] KM RM I L 0 0) (a1 : Int32) (a3 : Int32) (a4 : Int32) (a5 : Int32) (I : am_I) (L : am_L) (hf : fX12_items_readMan_b3w n d k3 a1 a3 a4 a5 I L = some (I', L')) : am_J x (fun S => S = (none, KM, RM, I', L')) 3 [some (.ref 0), some (.int a1), some (.ref 11), some (.int a3), some (.int a4), some (.int a5), none] [] KM RM I L 0 0 := by
  unfold fX12_items_readMan_b3w at hf
  refine j_iload hc dX12_items_3 rfl ?_
  refine j_iload hc dX12_items_5 rfl ?_
  refine j_icmp_ge (tgt := 28) hc dX12_items_7 rfl hf (fun hf => ?_) (fun hf => ?_)
  · refine j_iconst (v := (0 : Int32)) hc dX12_items_28 ci_0 ?_
    refine j_istore hc dX12_items_29 (Nat.le_of_ble_eq_true rfl) hf (fun v1 hf => ?_)
    refine j_iload_n hc dX12_items_31 rfl ?_
    refine j_aload_n hc dX12_items_32 rfl ?_
    refine j_callVI (t := 0) (As := []) hc dX12_items_33 kw_1636 mX12_look kM_0 clX12 rfl (by omega) (Nat.le_of_ble_eq_true rfl) (Nat.le_of_ble_eq_true rfl) ⟨Nat.le_refl _, Nat.le_refl _⟩ hf (fun v I' L' h => qX12_look x.2.1 n d I L v I' L' h) (fun v2 I2 L2 hf => ?_)
    refine j_callSI (As := [.int a1, .int v2]) hc dX12_items_36 kw_1648 mX12_itemOf  rfl (by omega) (Nat.le_of_ble_eq_true rfl) (Nat.le_of_ble_eq_true rfl) ⟨Nat.le_refl _, Nat.le_refl _⟩ hf (fun v I' L' h => qX12_itemOf x.2.1 n d a1 v2 I2 L2 v I' L' h) (fun v3 I3 L3 hf => ?_)
    refine j_istore hc dX12_items_39 (Nat.le_of_ble_eq_true rfl) hf (fun v4 hf => ?_)
    exact j_sub (tX12_items_readMan_b41 n d hc n _ _ _ _ _ _ hf) (And.intro rfl (And.intro rfl (And.intro rfl (And.intro rfl (And.intro rfl (And.intro rfl (trivial)))))))
  · refine j_aload_n hc dX12_items_10 rfl ?_
    refine j_iload_n hc dX12_items_11 rfl ?_
    refine j_iload hc dX12_items_12 rfl ?_
    refine j_iadd hc dX12_items_14 ?_
    refine j_iload_n hc dX12_items_15 rfl ?_
    refine j_iload hc dX12_items_16 rfl ?_
    refine j_callSI (As := [.int a1, .int a5]) hc dX12_items_18 kw_1633 mX12_usual  rfl (by omega) (Nat.le_of_ble_eq_true rfl) (Nat.le_of_ble_eq_true rfl) ⟨Nat.le_refl _, Nat.le_refl _⟩ hf (fun v I' L' h => qX12_usual x.2.1 n d a1 a5 I L v I' L' h) (fun v5 I5 L5 hf => ?_)
    refine j_iastore (n := 48) hc dX12_items_21 kM_11 hf (fun I6 hf => ?_)
    refine j_iinc (w := (1 : Int32)) hc dX12_items_22 rfl ci_1 (Nat.le_of_ble_eq_true rfl) hf (fun v7 hf => ?_)
    refine j_goto (tgt := 3) hc dX12_items_25 rfl ?_
    exact j_sub (hk3 _ _ _ _ _ _ hf) (And.intro rfl (And.intro rfl (And.intro rfl (And.intro rfl (And.intro rfl (And.intro rfl (trivial)))))))

def fX12_items_readMan_b3 (n d : Nat) : Nat → Int32 → Int32 → Int32 → Int32 → am_I → am_L → Option (am_I × am_L)
  | 0 => fun _ _ _ _ _ _ => none
  | m + 1 => fX12_items_readMan_b3w n d  (fX12_items_readMan_b3 n d m)

set_option maxRecDepth 100000 in
theorem tX12_items_readMan_b3 {x : am_X} (n d : Nat) (hc : am_ok x cX12_items yX12_items 7 none (d + 4) 0 0) {I' : am_I} {L' : am_L} (m : Nat) : ∀ (a1 : Int32) (a3 : Int32) (a4 : Int32) (a5 : Int32) (I : am_I) (L : am_L) (hf : fX12_items_readMan_b3 n d m a1 a3 a4 a5 I L = some (I', L')), am_J x (fun S => S = (none, KM, RM, I', L')) 3 [some (.ref 0), some (.int a1), some (.ref 11), some (.int a3), some (.int a4), some (.int a5), none] [] KM RM I L 0 0 := by
  induction m with
  | zero => intro a1 a3 a4 a5 I L hf; exact (Option.some_ne_none _ hf.symm).elim
  | succ m ih => intro a1 a3 a4 a5 I L hf; exact tX12_items_readMan_b3w n d hc (fX12_items_readMan_b3 n d m) ih a1 a3 a4 a5 I L hf

set_option maxRecDepth 100000 in
def fX12_items_readMan (n d : Nat) (a1 : Int32) (a3 : Int32) (a4 : Int32) (I : am_I) (L : am_L) : Option (am_I × am_L) :=
  am_lt (0 : Int32) (fun v1 => fX12_items_readMan_b3 n d n a1 a3 a4 v1 I L)

set_option maxRecDepth 100000 in
set_option maxHeartbeats 4000000 in
theorem tX12_items_readMan {x : am_X} (n d : Nat) (hc : am_ok x cX12_items yX12_items 7 none (d + 4) 0 0) {I' : am_I} {L' : am_L} (a1 : Int32) (a3 : Int32) (a4 : Int32) (I : am_I) (L : am_L) (hf : fX12_items_readMan n d a1 a3 a4 I L = some (I', L')) : am_J x (fun S => S = (none, KM, RM, I', L')) 0 [some (.ref 0), some (.int a1), some (.ref 11), some (.int a3), some (.int a4), none, none] [] KM RM I L 0 0 := by
  unfold fX12_items_readMan at hf
  refine j_iconst (v := (0 : Int32)) hc dX12_items_0 ci_0 ?_
  refine j_istore hc dX12_items_1 (Nat.le_of_ble_eq_true rfl) hf (fun v1 hf => ?_)
  exact j_sub (tX12_items_readMan_b3 n d hc n _ _ _ _ _ _ hf) (And.intro rfl (And.intro rfl (And.intro rfl (And.intro rfl (And.intro rfl (And.intro rfl (trivial)))))))

set_option maxRecDepth 100000 in
theorem qX12_items_readMan (l : Launch) (n d : Nat) (a1 : Int32) (a3 : Int32) (a4 : Int32) (I : am_I) (L : am_L) (I' : am_I) (L' : am_L) (hf : fX12_items_readMan n d a1 a3 a4 I L = some (I', L')) : am_C l yX12_items cX12_items 7 none (d + 4) [.ref 0, .int a1, .ref 11, .int a3, .int a4] KM RM I L none I' L' := by
  exact am_intro (plainFor_of_name plX12) (fun _ _ => trivial) (Nat.le_of_ble_eq_true rfl) (fun x hl hc => by subst hl; exact j_sub (tX12_items_readMan n d hc _ _ _ _ _ hf) (And.intro rfl (And.intro rfl (And.intro rfl (And.intro rfl (And.intro rfl (trivial)))))))
set_option maxRecDepth 100000 in
def fX12_items_readOrchard_b126 (n d : Nat) (k41 : Int32 → Int32 → Int32 → Int32 → am_I → am_L → Option (am_I × am_L)) (s0 : Int32) (a1 : Int32) (a3 : Int32) (a5 : Int32) (I : am_I) (L : am_L) : Option (am_I × am_L) :=
  am_lt s0 (fun v1 => k41 a1 a3 a5 v1 I L)

set_option maxRecDepth 100000 in
set_option maxHeartbeats 4000000 in
theorem tX12_items_readOrchard_b126 {x : am_X} (n d : Nat) (hc : am_ok x cX12_items yX12_items 7 none (d + 4) 0 0) {I' : am_I} {L' : am_L} (k41 : Int32 → Int32 → Int32 → Int32 → am_I → am_L → Option (am_I × am_L)) (hk41 : ∀ (a1 : Int32) (a3 : Int32) (a5 : Int32) (a6 : Int32) (I : am_I) (L : am_L), k41 a1 a3 a5 a6 I L = some (I', L') → am_J x (fun S => S = (none, KM, RM, I', L')) 41 [some (.ref 0), some (.int a1), some (.ref 12), some (.int a3), none, some (.int a5), some (.int a6)] [] KM RM I L 0 0) (s0 : Int32) (a1 : Int32) (a3 : Int32) (a5 : Int32) (I : am_I) (L : am_L) (hf : fX12_items_readOrchard_b126 n d k41 s0 a1 a3 a5 I L = some (I', L')) : am_J x (fun S => S = (none, KM, RM, I', L')) 126 [some (.ref 0), some (.int a1), some (.ref 12), some (.int a3), none, some (.int a5), none] [.int s0] KM RM I L 0 0 := by
  unfold fX12_items_readOrchard_b126 at hf
  refine j_istore hc dX12_items_126 (Nat.le_of_ble_eq_true rfl) hf (fun v1 hf => ?_)
  refine j_goto (tgt := 41) hc dX12_items_128 rfl ?_
  exact j_sub (hk41 _ _ _ _ _ _ hf) (And.intro rfl (And.intro rfl (And.intro rfl (And.intro rfl (And.intro rfl (And.intro rfl (trivial)))))))

set_option maxRecDepth 100000 in
def fX12_items_readOrchard_b41w (n d : Nat) (k41 : Int32 → Int32 → Int32 → Int32 → am_I → am_L → Option (am_I × am_L)) (a1 : Int32) (a3 : Int32) (a5 : Int32) (a6 : Int32) (I : am_I) (L : am_L) : Option (am_I × am_L) :=
  if (I 0 4) = (-1 : Int32) then
    (if a6 = (-1 : Int32) then
      (some (I, L))
      else
      (am_b3 (fX12_has n d a5 a6 I L) (fun v1 I1 L1 => if v1 = 0 then
        (am_lt (a5 ||| ((1 : Int32) <<< (a6 &&& 31))) (fun v2 => am_lt (am_up I1 0 3 ((I1 0 3) + (1 : Int32))) (fun I3 => am_b3 (fX12_lowest n d a1 a6 I3 L1) (fun v4 I4 L4 => am_b3 (fX12_highest n d a1 a6 I4 L4) (fun v5 I5 L5 => am_b3 (fX12_number n d v4 v5 I5 L5) (fun v6 I6 L6 => am_ck (a3 + a6) 12 (am_lt (am_up I6 12 ((a3 + a6)).toNatClampNeg v6) (fun I7 => if (I7 0 4) = (-1 : Int32) then
          (am_b3 (fX12_look n d I7 L6) (fun v8 I8 L8 => am_b3 (fX12_itemOf n d a1 v8 I8 L8) (fun v9 I9 L9 => fX12_items_readOrchard_b126 n d k41 v9 a1 a3 v2 I9 L9)))
          else
          (fX12_items_readOrchard_b126 n d k41 (-1 : Int32) a1 a3 v2 I7 L6)))))))))
        else
        (some (I1, L1)))))
    else
    (some (I, L))

set_option maxRecDepth 100000 in
set_option maxHeartbeats 4000000 in
theorem tX12_items_readOrchard_b41w {x : am_X} (n d : Nat) (hc : am_ok x cX12_items yX12_items 7 none (d + 4) 0 0) {I' : am_I} {L' : am_L} (k41 : Int32 → Int32 → Int32 → Int32 → am_I → am_L → Option (am_I × am_L)) (hk41 : ∀ (a1 : Int32) (a3 : Int32) (a5 : Int32) (a6 : Int32) (I : am_I) (L : am_L), k41 a1 a3 a5 a6 I L = some (I', L') → am_J x (fun S => S = (none, KM, RM, I', L')) 41 [some (.ref 0), some (.int a1), some (.ref 12), some (.int a3), none, some (.int a5), some (.int a6)] [] KM RM I L 0 0) (a1 : Int32) (a3 : Int32) (a5 : Int32) (a6 : Int32) (I : am_I) (L : am_L) (hf : fX12_items_readOrchard_b41w n d k41 a1 a3 a5 a6 I L = some (I', L')) : am_J x (fun S => S = (none, KM, RM, I', L')) 41 [some (.ref 0), some (.int a1), some (.ref 12), some (.int a3), none, some (.int a5), some (.int a6)] [] KM RM I L 0 0 := by
  unfold fX12_items_readOrchard_b41w at hf
  refine j_aload_n hc dX12_items_41 rfl ?_
  refine j_getI hc dX12_items_42 fgM_X12_108_0 ?_
  refine j_iconst (v := (-1 : Int32)) hc dX12_items_45 ci_m1 ?_
  refine j_icmp_ne (tgt := 131) hc dX12_items_46 rfl hf (fun hf => ?_) (fun hf => ?_)
  · exact j_return hc dX12_items_131 rfl rfl hf
  · refine j_iload hc dX12_items_49 rfl ?_
    refine j_iconst (v := (-1 : Int32)) hc dX12_items_51 ci_m1 ?_
    refine j_icmp_eq (tgt := 131) hc dX12_items_52 rfl hf (fun hf => ?_) (fun hf => ?_)
    · exact j_return hc dX12_items_131 rfl rfl hf
    · refine j_iload hc dX12_items_55 rfl ?_
      refine j_iload hc dX12_items_57 rfl ?_
      refine j_callSI (As := [.int a5, .int a6]) hc dX12_items_59 kw_1651 mX12_has  rfl (by omega) (Nat.le_of_ble_eq_true rfl) (Nat.le_of_ble_eq_true rfl) ⟨Nat.le_refl _, Nat.le_refl _⟩ hf (fun v I' L' h => qX12_has x.2.1 n d a5 a6 I L v I' L' h) (fun v1 I1 L1 hf => ?_)
      refine j_if_ne (tgt := 131) hc dX12_items_62 rfl hf (fun hf => ?_) (fun hf => ?_)
      · exact j_return hc dX12_items_131 rfl rfl hf
      · refine j_iload hc dX12_items_65 rfl ?_
        refine j_iconst (v := (1 : Int32)) hc dX12_items_67 ci_1 ?_
        refine j_iload hc dX12_items_68 rfl ?_
        refine j_ishl hc dX12_items_70 ?_
        refine j_ior hc dX12_items_71 ?_
        refine j_istore hc dX12_items_72 (Nat.le_of_ble_eq_true rfl) hf (fun v2 hf => ?_)
        refine j_aload_n hc dX12_items_74 rfl ?_
        refine j_dup hc dX12_items_75 rfl ?_
        refine j_getI hc dX12_items_76 fgM_X12_101_0 ?_
        refine j_iconst (v := (1 : Int32)) hc dX12_items_79 ci_1 ?_
        refine j_iadd hc dX12_items_80 ?_
        refine j_putI hc dX12_items_81 fpM_X12_101_0 rfl rfl hf (fun I3 hf => ?_)
        refine j_aload_n hc dX12_items_84 rfl ?_
        refine j_iload_n hc dX12_items_85 rfl ?_
        refine j_iload hc dX12_items_86 rfl ?_
        refine j_iadd hc dX12_items_88 ?_
        refine j_aload_n hc dX12_items_89 rfl ?_
        refine j_iload_n hc dX12_items_90 rfl ?_
        refine j_iload hc dX12_items_91 rfl ?_
        refine j_callSI (As := [.int a1, .int a6]) hc dX12_items_93 kw_1654 mX12_lowest  rfl (by omega) (Nat.le_of_ble_eq_true rfl) (Nat.le_of_ble_eq_true rfl) ⟨Nat.le_refl _, Nat.le_refl _⟩ hf (fun v I' L' h => qX12_lowest x.2.1 n d a1 a6 I3 L1 v I' L' h) (fun v4 I4 L4 hf => ?_)
        refine j_iload_n hc dX12_items_96 rfl ?_
        refine j_iload hc dX12_items_97 rfl ?_
        refine j_callSI (As := [.int a1, .int a6]) hc dX12_items_99 kw_1657 mX12_highest  rfl (by omega) (Nat.le_of_ble_eq_true rfl) (Nat.le_of_ble_eq_true rfl) ⟨Nat.le_refl _, Nat.le_refl _⟩ hf (fun v I' L' h => qX12_highest x.2.1 n d a1 a6 I4 L4 v I' L' h) (fun v5 I5 L5 hf => ?_)
        refine j_callVI (t := 0) (As := [.int v4, .int v5]) hc dX12_items_102 kw_1660 mX12_number kM_0 clX12 rfl (by omega) (Nat.le_of_ble_eq_true rfl) (Nat.le_of_ble_eq_true rfl) ⟨Nat.le_refl _, Nat.le_refl _⟩ hf (fun v I' L' h => qX12_number x.2.1 n d v4 v5 I5 L5 v I' L' h) (fun v6 I6 L6 hf => ?_)
        refine j_iastore (n := 12) hc dX12_items_105 kM_12 hf (fun I7 hf => ?_)
        refine j_aload_n hc dX12_items_106 rfl ?_
        refine j_getI hc dX12_items_107 fgM_X12_108_0 ?_
        refine j_iconst (v := (-1 : Int32)) hc dX12_items_110 ci_m1 ?_
        refine j_icmp_ne (tgt := 125) hc dX12_items_111 rfl hf (fun hf => ?_) (fun hf => ?_)
        · refine j_iconst (v := (-1 : Int32)) hc dX12_items_125 ci_m1 ?_
          exact j_sub (tX12_items_readOrchard_b126 n d hc k41 hk41 _ _ _ _ _ _ hf) (And.intro rfl (And.intro rfl (And.intro rfl (And.intro rfl (And.intro rfl (trivial))))))
        · refine j_iload_n hc dX12_items_114 rfl ?_
          refine j_aload_n hc dX12_items_115 rfl ?_
          refine j_callVI (t := 0) (As := []) hc dX12_items_116 kw_1636 mX12_look kM_0 clX12 rfl (by omega) (Nat.le_of_ble_eq_true rfl) (Nat.le_of_ble_eq_true rfl) ⟨Nat.le_refl _, Nat.le_refl _⟩ hf (fun v I' L' h => qX12_look x.2.1 n d I7 L6 v I' L' h) (fun v8 I8 L8 hf => ?_)
          refine j_callSI (As := [.int a1, .int v8]) hc dX12_items_119 kw_1648 mX12_itemOf  rfl (by omega) (Nat.le_of_ble_eq_true rfl) (Nat.le_of_ble_eq_true rfl) ⟨Nat.le_refl _, Nat.le_refl _⟩ hf (fun v I' L' h => qX12_itemOf x.2.1 n d a1 v8 I8 L8 v I' L' h) (fun v9 I9 L9 hf => ?_)
          refine j_goto (tgt := 126) hc dX12_items_122 rfl ?_
          exact j_sub (tX12_items_readOrchard_b126 n d hc k41 hk41 _ _ _ _ _ _ hf) (And.intro rfl (And.intro rfl (And.intro rfl (And.intro rfl (And.intro rfl (trivial))))))

def fX12_items_readOrchard_b41 (n d : Nat) : Nat → Int32 → Int32 → Int32 → Int32 → am_I → am_L → Option (am_I × am_L)
  | 0 => fun _ _ _ _ _ _ => none
  | m + 1 => fX12_items_readOrchard_b41w n d  (fX12_items_readOrchard_b41 n d m)

set_option maxRecDepth 100000 in
theorem tX12_items_readOrchard_b41 {x : am_X} (n d : Nat) (hc : am_ok x cX12_items yX12_items 7 none (d + 4) 0 0) {I' : am_I} {L' : am_L} (m : Nat) : ∀ (a1 : Int32) (a3 : Int32) (a5 : Int32) (a6 : Int32) (I : am_I) (L : am_L) (hf : fX12_items_readOrchard_b41 n d m a1 a3 a5 a6 I L = some (I', L')), am_J x (fun S => S = (none, KM, RM, I', L')) 41 [some (.ref 0), some (.int a1), some (.ref 12), some (.int a3), none, some (.int a5), some (.int a6)] [] KM RM I L 0 0 := by
  induction m with
  | zero => intro a1 a3 a5 a6 I L hf; exact (Option.some_ne_none _ hf.symm).elim
  | succ m ih => intro a1 a3 a5 a6 I L hf; exact tX12_items_readOrchard_b41w n d hc (fX12_items_readOrchard_b41 n d m) ih a1 a3 a5 a6 I L hf

set_option maxRecDepth 100000 in
def fX12_items_readOrchard_b3w (n d : Nat) (k3 : Int32 → Int32 → Int32 → Int32 → am_I → am_L → Option (am_I × am_L)) (a1 : Int32) (a3 : Int32) (a4 : Int32) (a5 : Int32) (I : am_I) (L : am_L) : Option (am_I × am_L) :=
  if a4 ≤ a5 then
    (am_lt (0 : Int32) (fun v1 => am_b3 (fX12_look n d I L) (fun v2 I2 L2 => am_b3 (fX12_itemOf n d a1 v2 I2 L2) (fun v3 I3 L3 => am_lt v3 (fun v4 => fX12_items_readOrchard_b41 n d n a1 a3 v1 v4 I3 L3)))))
    else
    (am_b3 (fX12_usual n d a1 a5 I L) (fun v5 I5 L5 => am_ck (a3 + a5) 12 (am_lt (am_up I5 12 ((a3 + a5)).toNatClampNeg v5) (fun I6 => am_lt (a5 + (1 : Int32)) (fun v7 => k3 a1 a3 a4 v7 I6 L5)))))

set_option maxRecDepth 100000 in
set_option maxHeartbeats 4000000 in
theorem tX12_items_readOrchard_b3w {x : am_X} (n d : Nat) (hc : am_ok x cX12_items yX12_items 7 none (d + 4) 0 0) {I' : am_I} {L' : am_L} (k3 : Int32 → Int32 → Int32 → Int32 → am_I → am_L → Option (am_I × am_L)) (hk3 : ∀ (a1 : Int32) (a3 : Int32) (a4 : Int32) (a5 : Int32) (I : am_I) (L : am_L), k3 a1 a3 a4 a5 I L = some (I', L') → am_J x (fun S => S = (none, KM, RM, I', L')) 3 [some (.ref 0), some (.int a1), some (.ref 12), some (.int a3), some (.int a4), some (.int a5), none] [] KM RM I L 0 0) (a1 : Int32) (a3 : Int32) (a4 : Int32) (a5 : Int32) (I : am_I) (L : am_L) (hf : fX12_items_readOrchard_b3w n d k3 a1 a3 a4 a5 I L = some (I', L')) : am_J x (fun S => S = (none, KM, RM, I', L')) 3 [some (.ref 0), some (.int a1), some (.ref 12), some (.int a3), some (.int a4), some (.int a5), none] [] KM RM I L 0 0 := by
  unfold fX12_items_readOrchard_b3w at hf
  refine j_iload hc dX12_items_3 rfl ?_
  refine j_iload hc dX12_items_5 rfl ?_
  refine j_icmp_ge (tgt := 28) hc dX12_items_7 rfl hf (fun hf => ?_) (fun hf => ?_)
  · refine j_iconst (v := (0 : Int32)) hc dX12_items_28 ci_0 ?_
    refine j_istore hc dX12_items_29 (Nat.le_of_ble_eq_true rfl) hf (fun v1 hf => ?_)
    refine j_iload_n hc dX12_items_31 rfl ?_
    refine j_aload_n hc dX12_items_32 rfl ?_
    refine j_callVI (t := 0) (As := []) hc dX12_items_33 kw_1636 mX12_look kM_0 clX12 rfl (by omega) (Nat.le_of_ble_eq_true rfl) (Nat.le_of_ble_eq_true rfl) ⟨Nat.le_refl _, Nat.le_refl _⟩ hf (fun v I' L' h => qX12_look x.2.1 n d I L v I' L' h) (fun v2 I2 L2 hf => ?_)
    refine j_callSI (As := [.int a1, .int v2]) hc dX12_items_36 kw_1648 mX12_itemOf  rfl (by omega) (Nat.le_of_ble_eq_true rfl) (Nat.le_of_ble_eq_true rfl) ⟨Nat.le_refl _, Nat.le_refl _⟩ hf (fun v I' L' h => qX12_itemOf x.2.1 n d a1 v2 I2 L2 v I' L' h) (fun v3 I3 L3 hf => ?_)
    refine j_istore hc dX12_items_39 (Nat.le_of_ble_eq_true rfl) hf (fun v4 hf => ?_)
    exact j_sub (tX12_items_readOrchard_b41 n d hc n _ _ _ _ _ _ hf) (And.intro rfl (And.intro rfl (And.intro rfl (And.intro rfl (And.intro rfl (And.intro rfl (trivial)))))))
  · refine j_aload_n hc dX12_items_10 rfl ?_
    refine j_iload_n hc dX12_items_11 rfl ?_
    refine j_iload hc dX12_items_12 rfl ?_
    refine j_iadd hc dX12_items_14 ?_
    refine j_iload_n hc dX12_items_15 rfl ?_
    refine j_iload hc dX12_items_16 rfl ?_
    refine j_callSI (As := [.int a1, .int a5]) hc dX12_items_18 kw_1633 mX12_usual  rfl (by omega) (Nat.le_of_ble_eq_true rfl) (Nat.le_of_ble_eq_true rfl) ⟨Nat.le_refl _, Nat.le_refl _⟩ hf (fun v I' L' h => qX12_usual x.2.1 n d a1 a5 I L v I' L' h) (fun v5 I5 L5 hf => ?_)
    refine j_iastore (n := 12) hc dX12_items_21 kM_12 hf (fun I6 hf => ?_)
    refine j_iinc (w := (1 : Int32)) hc dX12_items_22 rfl ci_1 (Nat.le_of_ble_eq_true rfl) hf (fun v7 hf => ?_)
    refine j_goto (tgt := 3) hc dX12_items_25 rfl ?_
    exact j_sub (hk3 _ _ _ _ _ _ hf) (And.intro rfl (And.intro rfl (And.intro rfl (And.intro rfl (And.intro rfl (And.intro rfl (trivial)))))))

def fX12_items_readOrchard_b3 (n d : Nat) : Nat → Int32 → Int32 → Int32 → Int32 → am_I → am_L → Option (am_I × am_L)
  | 0 => fun _ _ _ _ _ _ => none
  | m + 1 => fX12_items_readOrchard_b3w n d  (fX12_items_readOrchard_b3 n d m)

set_option maxRecDepth 100000 in
theorem tX12_items_readOrchard_b3 {x : am_X} (n d : Nat) (hc : am_ok x cX12_items yX12_items 7 none (d + 4) 0 0) {I' : am_I} {L' : am_L} (m : Nat) : ∀ (a1 : Int32) (a3 : Int32) (a4 : Int32) (a5 : Int32) (I : am_I) (L : am_L) (hf : fX12_items_readOrchard_b3 n d m a1 a3 a4 a5 I L = some (I', L')), am_J x (fun S => S = (none, KM, RM, I', L')) 3 [some (.ref 0), some (.int a1), some (.ref 12), some (.int a3), some (.int a4), some (.int a5), none] [] KM RM I L 0 0 := by
  induction m with
  | zero => intro a1 a3 a4 a5 I L hf; exact (Option.some_ne_none _ hf.symm).elim
  | succ m ih => intro a1 a3 a4 a5 I L hf; exact tX12_items_readOrchard_b3w n d hc (fX12_items_readOrchard_b3 n d m) ih a1 a3 a4 a5 I L hf

set_option maxRecDepth 100000 in
def fX12_items_readOrchard (n d : Nat) (a1 : Int32) (a3 : Int32) (a4 : Int32) (I : am_I) (L : am_L) : Option (am_I × am_L) :=
  am_lt (0 : Int32) (fun v1 => fX12_items_readOrchard_b3 n d n a1 a3 a4 v1 I L)

set_option maxRecDepth 100000 in
set_option maxHeartbeats 4000000 in
theorem tX12_items_readOrchard {x : am_X} (n d : Nat) (hc : am_ok x cX12_items yX12_items 7 none (d + 4) 0 0) {I' : am_I} {L' : am_L} (a1 : Int32) (a3 : Int32) (a4 : Int32) (I : am_I) (L : am_L) (hf : fX12_items_readOrchard n d a1 a3 a4 I L = some (I', L')) : am_J x (fun S => S = (none, KM, RM, I', L')) 0 [some (.ref 0), some (.int a1), some (.ref 12), some (.int a3), some (.int a4), none, none] [] KM RM I L 0 0 := by
  unfold fX12_items_readOrchard at hf
  refine j_iconst (v := (0 : Int32)) hc dX12_items_0 ci_0 ?_
  refine j_istore hc dX12_items_1 (Nat.le_of_ble_eq_true rfl) hf (fun v1 hf => ?_)
  exact j_sub (tX12_items_readOrchard_b3 n d hc n _ _ _ _ _ _ hf) (And.intro rfl (And.intro rfl (And.intro rfl (And.intro rfl (And.intro rfl (And.intro rfl (trivial)))))))

set_option maxRecDepth 100000 in
theorem qX12_items_readOrchard (l : Launch) (n d : Nat) (a1 : Int32) (a3 : Int32) (a4 : Int32) (I : am_I) (L : am_L) (I' : am_I) (L' : am_L) (hf : fX12_items_readOrchard n d a1 a3 a4 I L = some (I', L')) : am_C l yX12_items cX12_items 7 none (d + 4) [.ref 0, .int a1, .ref 12, .int a3, .int a4] KM RM I L none I' L' := by
  exact am_intro (plainFor_of_name plX12) (fun _ _ => trivial) (Nat.le_of_ble_eq_true rfl) (fun x hl hc => by subst hl; exact j_sub (tX12_items_readOrchard n d hc _ _ _ _ _ hf) (And.intro rfl (And.intro rfl (And.intro rfl (And.intro rfl (And.intro rfl (trivial)))))))
set_option maxRecDepth 100000 in
def fX12_items_readHow_b126 (n d : Nat) (k41 : Int32 → Int32 → Int32 → Int32 → am_I → am_L → Option (am_I × am_L)) (s0 : Int32) (a1 : Int32) (a3 : Int32) (a5 : Int32) (I : am_I) (L : am_L) : Option (am_I × am_L) :=
  am_lt s0 (fun v1 => k41 a1 a3 a5 v1 I L)

set_option maxRecDepth 100000 in
set_option maxHeartbeats 4000000 in
theorem tX12_items_readHow_b126 {x : am_X} (n d : Nat) (hc : am_ok x cX12_items yX12_items 7 none (d + 4) 0 0) {I' : am_I} {L' : am_L} (k41 : Int32 → Int32 → Int32 → Int32 → am_I → am_L → Option (am_I × am_L)) (hk41 : ∀ (a1 : Int32) (a3 : Int32) (a5 : Int32) (a6 : Int32) (I : am_I) (L : am_L), k41 a1 a3 a5 a6 I L = some (I', L') → am_J x (fun S => S = (none, KM, RM, I', L')) 41 [some (.ref 0), some (.int a1), some (.ref 13), some (.int a3), none, some (.int a5), some (.int a6)] [] KM RM I L 0 0) (s0 : Int32) (a1 : Int32) (a3 : Int32) (a5 : Int32) (I : am_I) (L : am_L) (hf : fX12_items_readHow_b126 n d k41 s0 a1 a3 a5 I L = some (I', L')) : am_J x (fun S => S = (none, KM, RM, I', L')) 126 [some (.ref 0), some (.int a1), some (.ref 13), some (.int a3), none, some (.int a5), none] [.int s0] KM RM I L 0 0 := by
  unfold fX12_items_readHow_b126 at hf
  refine j_istore hc dX12_items_126 (Nat.le_of_ble_eq_true rfl) hf (fun v1 hf => ?_)
  refine j_goto (tgt := 41) hc dX12_items_128 rfl ?_
  exact j_sub (hk41 _ _ _ _ _ _ hf) (And.intro rfl (And.intro rfl (And.intro rfl (And.intro rfl (And.intro rfl (And.intro rfl (trivial)))))))

set_option maxRecDepth 100000 in
def fX12_items_readHow_b41w (n d : Nat) (k41 : Int32 → Int32 → Int32 → Int32 → am_I → am_L → Option (am_I × am_L)) (a1 : Int32) (a3 : Int32) (a5 : Int32) (a6 : Int32) (I : am_I) (L : am_L) : Option (am_I × am_L) :=
  if (I 0 4) = (-1 : Int32) then
    (if a6 = (-1 : Int32) then
      (some (I, L))
      else
      (am_b3 (fX12_has n d a5 a6 I L) (fun v1 I1 L1 => if v1 = 0 then
        (am_lt (a5 ||| ((1 : Int32) <<< (a6 &&& 31))) (fun v2 => am_lt (am_up I1 0 3 ((I1 0 3) + (1 : Int32))) (fun I3 => am_b3 (fX12_lowest n d a1 a6 I3 L1) (fun v4 I4 L4 => am_b3 (fX12_highest n d a1 a6 I4 L4) (fun v5 I5 L5 => am_b3 (fX12_number n d v4 v5 I5 L5) (fun v6 I6 L6 => am_ck (a3 + a6) 2 (am_lt (am_up I6 13 ((a3 + a6)).toNatClampNeg v6) (fun I7 => if (I7 0 4) = (-1 : Int32) then
          (am_b3 (fX12_look n d I7 L6) (fun v8 I8 L8 => am_b3 (fX12_itemOf n d a1 v8 I8 L8) (fun v9 I9 L9 => fX12_items_readHow_b126 n d k41 v9 a1 a3 v2 I9 L9)))
          else
          (fX12_items_readHow_b126 n d k41 (-1 : Int32) a1 a3 v2 I7 L6)))))))))
        else
        (some (I1, L1)))))
    else
    (some (I, L))

set_option maxRecDepth 100000 in
set_option maxHeartbeats 4000000 in
theorem tX12_items_readHow_b41w {x : am_X} (n d : Nat) (hc : am_ok x cX12_items yX12_items 7 none (d + 4) 0 0) {I' : am_I} {L' : am_L} (k41 : Int32 → Int32 → Int32 → Int32 → am_I → am_L → Option (am_I × am_L)) (hk41 : ∀ (a1 : Int32) (a3 : Int32) (a5 : Int32) (a6 : Int32) (I : am_I) (L : am_L), k41 a1 a3 a5 a6 I L = some (I', L') → am_J x (fun S => S = (none, KM, RM, I', L')) 41 [some (.ref 0), some (.int a1), some (.ref 13), some (.int a3), none, some (.int a5), some (.int a6)] [] KM RM I L 0 0) (a1 : Int32) (a3 : Int32) (a5 : Int32) (a6 : Int32) (I : am_I) (L : am_L) (hf : fX12_items_readHow_b41w n d k41 a1 a3 a5 a6 I L = some (I', L')) : am_J x (fun S => S = (none, KM, RM, I', L')) 41 [some (.ref 0), some (.int a1), some (.ref 13), some (.int a3), none, some (.int a5), some (.int a6)] [] KM RM I L 0 0 := by
  unfold fX12_items_readHow_b41w at hf
  refine j_aload_n hc dX12_items_41 rfl ?_
  refine j_getI hc dX12_items_42 fgM_X12_108_0 ?_
  refine j_iconst (v := (-1 : Int32)) hc dX12_items_45 ci_m1 ?_
  refine j_icmp_ne (tgt := 131) hc dX12_items_46 rfl hf (fun hf => ?_) (fun hf => ?_)
  · exact j_return hc dX12_items_131 rfl rfl hf
  · refine j_iload hc dX12_items_49 rfl ?_
    refine j_iconst (v := (-1 : Int32)) hc dX12_items_51 ci_m1 ?_
    refine j_icmp_eq (tgt := 131) hc dX12_items_52 rfl hf (fun hf => ?_) (fun hf => ?_)
    · exact j_return hc dX12_items_131 rfl rfl hf
    · refine j_iload hc dX12_items_55 rfl ?_
      refine j_iload hc dX12_items_57 rfl ?_
      refine j_callSI (As := [.int a5, .int a6]) hc dX12_items_59 kw_1651 mX12_has  rfl (by omega) (Nat.le_of_ble_eq_true rfl) (Nat.le_of_ble_eq_true rfl) ⟨Nat.le_refl _, Nat.le_refl _⟩ hf (fun v I' L' h => qX12_has x.2.1 n d a5 a6 I L v I' L' h) (fun v1 I1 L1 hf => ?_)
      refine j_if_ne (tgt := 131) hc dX12_items_62 rfl hf (fun hf => ?_) (fun hf => ?_)
      · exact j_return hc dX12_items_131 rfl rfl hf
      · refine j_iload hc dX12_items_65 rfl ?_
        refine j_iconst (v := (1 : Int32)) hc dX12_items_67 ci_1 ?_
        refine j_iload hc dX12_items_68 rfl ?_
        refine j_ishl hc dX12_items_70 ?_
        refine j_ior hc dX12_items_71 ?_
        refine j_istore hc dX12_items_72 (Nat.le_of_ble_eq_true rfl) hf (fun v2 hf => ?_)
        refine j_aload_n hc dX12_items_74 rfl ?_
        refine j_dup hc dX12_items_75 rfl ?_
        refine j_getI hc dX12_items_76 fgM_X12_101_0 ?_
        refine j_iconst (v := (1 : Int32)) hc dX12_items_79 ci_1 ?_
        refine j_iadd hc dX12_items_80 ?_
        refine j_putI hc dX12_items_81 fpM_X12_101_0 rfl rfl hf (fun I3 hf => ?_)
        refine j_aload_n hc dX12_items_84 rfl ?_
        refine j_iload_n hc dX12_items_85 rfl ?_
        refine j_iload hc dX12_items_86 rfl ?_
        refine j_iadd hc dX12_items_88 ?_
        refine j_aload_n hc dX12_items_89 rfl ?_
        refine j_iload_n hc dX12_items_90 rfl ?_
        refine j_iload hc dX12_items_91 rfl ?_
        refine j_callSI (As := [.int a1, .int a6]) hc dX12_items_93 kw_1654 mX12_lowest  rfl (by omega) (Nat.le_of_ble_eq_true rfl) (Nat.le_of_ble_eq_true rfl) ⟨Nat.le_refl _, Nat.le_refl _⟩ hf (fun v I' L' h => qX12_lowest x.2.1 n d a1 a6 I3 L1 v I' L' h) (fun v4 I4 L4 hf => ?_)
        refine j_iload_n hc dX12_items_96 rfl ?_
        refine j_iload hc dX12_items_97 rfl ?_
        refine j_callSI (As := [.int a1, .int a6]) hc dX12_items_99 kw_1657 mX12_highest  rfl (by omega) (Nat.le_of_ble_eq_true rfl) (Nat.le_of_ble_eq_true rfl) ⟨Nat.le_refl _, Nat.le_refl _⟩ hf (fun v I' L' h => qX12_highest x.2.1 n d a1 a6 I4 L4 v I' L' h) (fun v5 I5 L5 hf => ?_)
        refine j_callVI (t := 0) (As := [.int v4, .int v5]) hc dX12_items_102 kw_1660 mX12_number kM_0 clX12 rfl (by omega) (Nat.le_of_ble_eq_true rfl) (Nat.le_of_ble_eq_true rfl) ⟨Nat.le_refl _, Nat.le_refl _⟩ hf (fun v I' L' h => qX12_number x.2.1 n d v4 v5 I5 L5 v I' L' h) (fun v6 I6 L6 hf => ?_)
        refine j_iastore (n := 2) hc dX12_items_105 kM_13 hf (fun I7 hf => ?_)
        refine j_aload_n hc dX12_items_106 rfl ?_
        refine j_getI hc dX12_items_107 fgM_X12_108_0 ?_
        refine j_iconst (v := (-1 : Int32)) hc dX12_items_110 ci_m1 ?_
        refine j_icmp_ne (tgt := 125) hc dX12_items_111 rfl hf (fun hf => ?_) (fun hf => ?_)
        · refine j_iconst (v := (-1 : Int32)) hc dX12_items_125 ci_m1 ?_
          exact j_sub (tX12_items_readHow_b126 n d hc k41 hk41 _ _ _ _ _ _ hf) (And.intro rfl (And.intro rfl (And.intro rfl (And.intro rfl (And.intro rfl (trivial))))))
        · refine j_iload_n hc dX12_items_114 rfl ?_
          refine j_aload_n hc dX12_items_115 rfl ?_
          refine j_callVI (t := 0) (As := []) hc dX12_items_116 kw_1636 mX12_look kM_0 clX12 rfl (by omega) (Nat.le_of_ble_eq_true rfl) (Nat.le_of_ble_eq_true rfl) ⟨Nat.le_refl _, Nat.le_refl _⟩ hf (fun v I' L' h => qX12_look x.2.1 n d I7 L6 v I' L' h) (fun v8 I8 L8 hf => ?_)
          refine j_callSI (As := [.int a1, .int v8]) hc dX12_items_119 kw_1648 mX12_itemOf  rfl (by omega) (Nat.le_of_ble_eq_true rfl) (Nat.le_of_ble_eq_true rfl) ⟨Nat.le_refl _, Nat.le_refl _⟩ hf (fun v I' L' h => qX12_itemOf x.2.1 n d a1 v8 I8 L8 v I' L' h) (fun v9 I9 L9 hf => ?_)
          refine j_goto (tgt := 126) hc dX12_items_122 rfl ?_
          exact j_sub (tX12_items_readHow_b126 n d hc k41 hk41 _ _ _ _ _ _ hf) (And.intro rfl (And.intro rfl (And.intro rfl (And.intro rfl (And.intro rfl (trivial))))))

def fX12_items_readHow_b41 (n d : Nat) : Nat → Int32 → Int32 → Int32 → Int32 → am_I → am_L → Option (am_I × am_L)
  | 0 => fun _ _ _ _ _ _ => none
  | m + 1 => fX12_items_readHow_b41w n d  (fX12_items_readHow_b41 n d m)

set_option maxRecDepth 100000 in
theorem tX12_items_readHow_b41 {x : am_X} (n d : Nat) (hc : am_ok x cX12_items yX12_items 7 none (d + 4) 0 0) {I' : am_I} {L' : am_L} (m : Nat) : ∀ (a1 : Int32) (a3 : Int32) (a5 : Int32) (a6 : Int32) (I : am_I) (L : am_L) (hf : fX12_items_readHow_b41 n d m a1 a3 a5 a6 I L = some (I', L')), am_J x (fun S => S = (none, KM, RM, I', L')) 41 [some (.ref 0), some (.int a1), some (.ref 13), some (.int a3), none, some (.int a5), some (.int a6)] [] KM RM I L 0 0 := by
  induction m with
  | zero => intro a1 a3 a5 a6 I L hf; exact (Option.some_ne_none _ hf.symm).elim
  | succ m ih => intro a1 a3 a5 a6 I L hf; exact tX12_items_readHow_b41w n d hc (fX12_items_readHow_b41 n d m) ih a1 a3 a5 a6 I L hf

set_option maxRecDepth 100000 in
def fX12_items_readHow_b3w (n d : Nat) (k3 : Int32 → Int32 → Int32 → Int32 → am_I → am_L → Option (am_I × am_L)) (a1 : Int32) (a3 : Int32) (a4 : Int32) (a5 : Int32) (I : am_I) (L : am_L) : Option (am_I × am_L) :=
  if a4 ≤ a5 then
    (am_lt (0 : Int32) (fun v1 => am_b3 (fX12_look n d I L) (fun v2 I2 L2 => am_b3 (fX12_itemOf n d a1 v2 I2 L2) (fun v3 I3 L3 => am_lt v3 (fun v4 => fX12_items_readHow_b41 n d n a1 a3 v1 v4 I3 L3)))))
    else
    (am_b3 (fX12_usual n d a1 a5 I L) (fun v5 I5 L5 => am_ck (a3 + a5) 2 (am_lt (am_up I5 13 ((a3 + a5)).toNatClampNeg v5) (fun I6 => am_lt (a5 + (1 : Int32)) (fun v7 => k3 a1 a3 a4 v7 I6 L5)))))

set_option maxRecDepth 100000 in
set_option maxHeartbeats 4000000 in
theorem tX12_items_readHow_b3w {x : am_X} (n d : Nat) (hc : am_ok x cX12_items yX12_items 7 none (d + 4) 0 0) {I' : am_I} {L' : am_L} (k3 : Int32 → Int32 → Int32 → Int32 → am_I → am_L → Option (am_I × am_L)) (hk3 : ∀ (a1 : Int32) (a3 : Int32) (a4 : Int32) (a5 : Int32) (I : am_I) (L : am_L), k3 a1 a3 a4 a5 I L = some (I', L') → am_J x (fun S => S = (none, KM, RM, I', L')) 3 [some (.ref 0), some (.int a1), some (.ref 13), some (.int a3), some (.int a4), some (.int a5), none] [] KM RM I L 0 0) (a1 : Int32) (a3 : Int32) (a4 : Int32) (a5 : Int32) (I : am_I) (L : am_L) (hf : fX12_items_readHow_b3w n d k3 a1 a3 a4 a5 I L = some (I', L')) : am_J x (fun S => S = (none, KM, RM, I', L')) 3 [some (.ref 0), some (.int a1), some (.ref 13), some (.int a3), some (.int a4), some (.int a5), none] [] KM RM I L 0 0 := by
  unfold fX12_items_readHow_b3w at hf
  refine j_iload hc dX12_items_3 rfl ?_
  refine j_iload hc dX12_items_5 rfl ?_
  refine j_icmp_ge (tgt := 28) hc dX12_items_7 rfl hf (fun hf => ?_) (fun hf => ?_)
  · refine j_iconst (v := (0 : Int32)) hc dX12_items_28 ci_0 ?_
    refine j_istore hc dX12_items_29 (Nat.le_of_ble_eq_true rfl) hf (fun v1 hf => ?_)
    refine j_iload_n hc dX12_items_31 rfl ?_
    refine j_aload_n hc dX12_items_32 rfl ?_
    refine j_callVI (t := 0) (As := []) hc dX12_items_33 kw_1636 mX12_look kM_0 clX12 rfl (by omega) (Nat.le_of_ble_eq_true rfl) (Nat.le_of_ble_eq_true rfl) ⟨Nat.le_refl _, Nat.le_refl _⟩ hf (fun v I' L' h => qX12_look x.2.1 n d I L v I' L' h) (fun v2 I2 L2 hf => ?_)
    refine j_callSI (As := [.int a1, .int v2]) hc dX12_items_36 kw_1648 mX12_itemOf  rfl (by omega) (Nat.le_of_ble_eq_true rfl) (Nat.le_of_ble_eq_true rfl) ⟨Nat.le_refl _, Nat.le_refl _⟩ hf (fun v I' L' h => qX12_itemOf x.2.1 n d a1 v2 I2 L2 v I' L' h) (fun v3 I3 L3 hf => ?_)
    refine j_istore hc dX12_items_39 (Nat.le_of_ble_eq_true rfl) hf (fun v4 hf => ?_)
    exact j_sub (tX12_items_readHow_b41 n d hc n _ _ _ _ _ _ hf) (And.intro rfl (And.intro rfl (And.intro rfl (And.intro rfl (And.intro rfl (And.intro rfl (trivial)))))))
  · refine j_aload_n hc dX12_items_10 rfl ?_
    refine j_iload_n hc dX12_items_11 rfl ?_
    refine j_iload hc dX12_items_12 rfl ?_
    refine j_iadd hc dX12_items_14 ?_
    refine j_iload_n hc dX12_items_15 rfl ?_
    refine j_iload hc dX12_items_16 rfl ?_
    refine j_callSI (As := [.int a1, .int a5]) hc dX12_items_18 kw_1633 mX12_usual  rfl (by omega) (Nat.le_of_ble_eq_true rfl) (Nat.le_of_ble_eq_true rfl) ⟨Nat.le_refl _, Nat.le_refl _⟩ hf (fun v I' L' h => qX12_usual x.2.1 n d a1 a5 I L v I' L' h) (fun v5 I5 L5 hf => ?_)
    refine j_iastore (n := 2) hc dX12_items_21 kM_13 hf (fun I6 hf => ?_)
    refine j_iinc (w := (1 : Int32)) hc dX12_items_22 rfl ci_1 (Nat.le_of_ble_eq_true rfl) hf (fun v7 hf => ?_)
    refine j_goto (tgt := 3) hc dX12_items_25 rfl ?_
    exact j_sub (hk3 _ _ _ _ _ _ hf) (And.intro rfl (And.intro rfl (And.intro rfl (And.intro rfl (And.intro rfl (And.intro rfl (trivial)))))))

def fX12_items_readHow_b3 (n d : Nat) : Nat → Int32 → Int32 → Int32 → Int32 → am_I → am_L → Option (am_I × am_L)
  | 0 => fun _ _ _ _ _ _ => none
  | m + 1 => fX12_items_readHow_b3w n d  (fX12_items_readHow_b3 n d m)

set_option maxRecDepth 100000 in
theorem tX12_items_readHow_b3 {x : am_X} (n d : Nat) (hc : am_ok x cX12_items yX12_items 7 none (d + 4) 0 0) {I' : am_I} {L' : am_L} (m : Nat) : ∀ (a1 : Int32) (a3 : Int32) (a4 : Int32) (a5 : Int32) (I : am_I) (L : am_L) (hf : fX12_items_readHow_b3 n d m a1 a3 a4 a5 I L = some (I', L')), am_J x (fun S => S = (none, KM, RM, I', L')) 3 [some (.ref 0), some (.int a1), some (.ref 13), some (.int a3), some (.int a4), some (.int a5), none] [] KM RM I L 0 0 := by
  induction m with
  | zero => intro a1 a3 a4 a5 I L hf; exact (Option.some_ne_none _ hf.symm).elim
  | succ m ih => intro a1 a3 a4 a5 I L hf; exact tX12_items_readHow_b3w n d hc (fX12_items_readHow_b3 n d m) ih a1 a3 a4 a5 I L hf

set_option maxRecDepth 100000 in
def fX12_items_readHow (n d : Nat) (a1 : Int32) (a3 : Int32) (a4 : Int32) (I : am_I) (L : am_L) : Option (am_I × am_L) :=
  am_lt (0 : Int32) (fun v1 => fX12_items_readHow_b3 n d n a1 a3 a4 v1 I L)

set_option maxRecDepth 100000 in
set_option maxHeartbeats 4000000 in
theorem tX12_items_readHow {x : am_X} (n d : Nat) (hc : am_ok x cX12_items yX12_items 7 none (d + 4) 0 0) {I' : am_I} {L' : am_L} (a1 : Int32) (a3 : Int32) (a4 : Int32) (I : am_I) (L : am_L) (hf : fX12_items_readHow n d a1 a3 a4 I L = some (I', L')) : am_J x (fun S => S = (none, KM, RM, I', L')) 0 [some (.ref 0), some (.int a1), some (.ref 13), some (.int a3), some (.int a4), none, none] [] KM RM I L 0 0 := by
  unfold fX12_items_readHow at hf
  refine j_iconst (v := (0 : Int32)) hc dX12_items_0 ci_0 ?_
  refine j_istore hc dX12_items_1 (Nat.le_of_ble_eq_true rfl) hf (fun v1 hf => ?_)
  exact j_sub (tX12_items_readHow_b3 n d hc n _ _ _ _ _ _ hf) (And.intro rfl (And.intro rfl (And.intro rfl (And.intro rfl (And.intro rfl (And.intro rfl (trivial)))))))

set_option maxRecDepth 100000 in
theorem qX12_items_readHow (l : Launch) (n d : Nat) (a1 : Int32) (a3 : Int32) (a4 : Int32) (I : am_I) (L : am_L) (I' : am_I) (L' : am_L) (hf : fX12_items_readHow n d a1 a3 a4 I L = some (I', L')) : am_C l yX12_items cX12_items 7 none (d + 4) [.ref 0, .int a1, .ref 13, .int a3, .int a4] KM RM I L none I' L' := by
  exact am_intro (plainFor_of_name plX12) (fun _ _ => trivial) (Nat.le_of_ble_eq_true rfl) (fun x hl hc => by subst hl; exact j_sub (tX12_items_readHow n d hc _ _ _ _ _ hf) (And.intro rfl (And.intro rfl (And.intro rfl (And.intro rfl (And.intro rfl (trivial)))))))
set_option maxRecDepth 100000 in
def fX12_isWhole_b99 (n d : Nat) (k53 : Int32 → Int32 → am_I → am_L → Option (Int32 × am_I × am_L)) (k64 : Int32 → Int32 → Int32 → am_I → am_L → Option (Int32 × am_I × am_L)) (s0 : Int32) (a3 : Int32) (a4 : Int32) (I : am_I) (L : am_L) : Option (Int32 × am_I × am_L) :=
  am_lt s0 (fun v1 => am_lt (a4 + (1 : Int32)) (fun v2 => k64 v1 a3 v2 I L))

set_option maxRecDepth 100000 in
set_option maxHeartbeats 4000000 in
theorem tX12_isWhole_b99 {x : am_X} (n d : Nat) (hc : am_ok x cX12_isWhole yX12_isWhole 5 (some .boolean) (d + 1) 0 0) {r : Int32} {I' : am_I} {L' : am_L} (k53 : Int32 → Int32 → am_I → am_L → Option (Int32 × am_I × am_L)) (k64 : Int32 → Int32 → Int32 → am_I → am_L → Option (Int32 × am_I × am_L)) (hk53 : ∀ (a2 : Int32) (a3 : Int32) (I : am_I) (L : am_L), k53 a2 a3 I L = some (r, I', L') → am_J x (fun S => S = (some (.int r), KM, RM, I', L')) 53 [some (.ref 0), none, some (.int a2), some (.int a3), none] [] KM RM I L 0 0) (hk64 : ∀ (a2 : Int32) (a3 : Int32) (a4 : Int32) (I : am_I) (L : am_L), k64 a2 a3 a4 I L = some (r, I', L') → am_J x (fun S => S = (some (.int r), KM, RM, I', L')) 64 [some (.ref 0), none, some (.int a2), some (.int a3), some (.int a4)] [] KM RM I L 0 0) (s0 : Int32) (a3 : Int32) (a4 : Int32) (I : am_I) (L : am_L) (hf : fX12_isWhole_b99 n d k53 k64 s0 a3 a4 I L = some (r, I', L')) : am_J x (fun S => S = (some (.int r), KM, RM, I', L')) 99 [some (.ref 0), none, none, some (.int a3), some (.int a4)] [.int s0] KM RM I L 0 0 := by
  unfold fX12_isWhole_b99 at hf
  refine j_istore_n hc dX12_isWhole_99 (Nat.le_of_ble_eq_true rfl) hf (fun v1 hf => ?_)
  refine j_iinc (w := (1 : Int32)) hc dX12_isWhole_100 rfl ci_1 (Nat.le_of_ble_eq_true rfl) hf (fun v2 hf => ?_)
  refine j_goto (tgt := 64) hc dX12_isWhole_103 rfl ?_
  exact j_sub (hk64 _ _ _ _ _ hf) (And.intro rfl (And.intro rfl (And.intro rfl (And.intro rfl (trivial)))))

set_option maxRecDepth 100000 in
def fX12_isWhole_b98 (n d : Nat) (k53 : Int32 → Int32 → am_I → am_L → Option (Int32 × am_I × am_L)) (k64 : Int32 → Int32 → Int32 → am_I → am_L → Option (Int32 × am_I × am_L)) (a3 : Int32) (a4 : Int32) (I : am_I) (L : am_L) : Option (Int32 × am_I × am_L) :=
  fX12_isWhole_b99 n d k53 k64 (0 : Int32) a3 a4 I L

set_option maxRecDepth 100000 in
set_option maxHeartbeats 4000000 in
theorem tX12_isWhole_b98 {x : am_X} (n d : Nat) (hc : am_ok x cX12_isWhole yX12_isWhole 5 (some .boolean) (d + 1) 0 0) {r : Int32} {I' : am_I} {L' : am_L} (k53 : Int32 → Int32 → am_I → am_L → Option (Int32 × am_I × am_L)) (k64 : Int32 → Int32 → Int32 → am_I → am_L → Option (Int32 × am_I × am_L)) (hk53 : ∀ (a2 : Int32) (a3 : Int32) (I : am_I) (L : am_L), k53 a2 a3 I L = some (r, I', L') → am_J x (fun S => S = (some (.int r), KM, RM, I', L')) 53 [some (.ref 0), none, some (.int a2), some (.int a3), none] [] KM RM I L 0 0) (hk64 : ∀ (a2 : Int32) (a3 : Int32) (a4 : Int32) (I : am_I) (L : am_L), k64 a2 a3 a4 I L = some (r, I', L') → am_J x (fun S => S = (some (.int r), KM, RM, I', L')) 64 [some (.ref 0), none, some (.int a2), some (.int a3), some (.int a4)] [] KM RM I L 0 0) (a3 : Int32) (a4 : Int32) (I : am_I) (L : am_L) (hf : fX12_isWhole_b98 n d k53 k64 a3 a4 I L = some (r, I', L')) : am_J x (fun S => S = (some (.int r), KM, RM, I', L')) 98 [some (.ref 0), none, none, some (.int a3), some (.int a4)] [] KM RM I L 0 0 := by
  unfold fX12_isWhole_b98 at hf
  refine j_iconst (v := (0 : Int32)) hc dX12_isWhole_98 ci_0 ?_
  exact j_sub (tX12_isWhole_b99 n d hc k53 k64 hk53 hk64 _ _ _ _ _ hf) (And.intro rfl (And.intro rfl (And.intro rfl (trivial))))

set_option maxRecDepth 100000 in
def fX12_isWhole_b64w (n d : Nat) (k53 : Int32 → Int32 → am_I → am_L → Option (Int32 × am_I × am_L)) (k64 : Int32 → Int32 → Int32 → am_I → am_L → Option (Int32 × am_I × am_L)) (a2 : Int32) (a3 : Int32) (a4 : Int32) (I : am_I) (L : am_L) : Option (Int32 × am_I × am_L) :=
  if a3 ≤ a4 then
    (am_lt (a3 + (1 : Int32)) (fun v1 => k53 a2 v1 I L))
    else
    (if a2 = 0 then
      (fX12_isWhole_b98 n d k53 k64 a3 a4 I L)
      else
      (am_ck ((2 : Int32) * a4) 12 (am_lt (I 12 (((2 : Int32) * a4)).toNatClampNeg) (fun v2 => am_ck ((2 : Int32) * a3) 12 (am_lt (I 12 (((2 : Int32) * a3)).toNatClampNeg) (fun v3 => if v2 = v3 then
        (fX12_isWhole_b98 n d k53 k64 a3 a4 I L)
        else
        (fX12_isWhole_b99 n d k53 k64 (1 : Int32) a3 a4 I L)))))))

set_option maxRecDepth 100000 in
set_option maxHeartbeats 4000000 in
theorem tX12_isWhole_b64w {x : am_X} (n d : Nat) (hc : am_ok x cX12_isWhole yX12_isWhole 5 (some .boolean) (d + 1) 0 0) {r : Int32} {I' : am_I} {L' : am_L} (k53 : Int32 → Int32 → am_I → am_L → Option (Int32 × am_I × am_L)) (k64 : Int32 → Int32 → Int32 → am_I → am_L → Option (Int32 × am_I × am_L)) (hk53 : ∀ (a2 : Int32) (a3 : Int32) (I : am_I) (L : am_L), k53 a2 a3 I L = some (r, I', L') → am_J x (fun S => S = (some (.int r), KM, RM, I', L')) 53 [some (.ref 0), none, some (.int a2), some (.int a3), none] [] KM RM I L 0 0) (hk64 : ∀ (a2 : Int32) (a3 : Int32) (a4 : Int32) (I : am_I) (L : am_L), k64 a2 a3 a4 I L = some (r, I', L') → am_J x (fun S => S = (some (.int r), KM, RM, I', L')) 64 [some (.ref 0), none, some (.int a2), some (.int a3), some (.int a4)] [] KM RM I L 0 0) (a2 : Int32) (a3 : Int32) (a4 : Int32) (I : am_I) (L : am_L) (hf : fX12_isWhole_b64w n d k53 k64 a2 a3 a4 I L = some (r, I', L')) : am_J x (fun S => S = (some (.int r), KM, RM, I', L')) 64 [some (.ref 0), none, some (.int a2), some (.int a3), some (.int a4)] [] KM RM I L 0 0 := by
  unfold fX12_isWhole_b64w at hf
  refine j_iload hc dX12_isWhole_64 rfl ?_
  refine j_iload_n hc dX12_isWhole_66 rfl ?_
  refine j_icmp_ge (tgt := 106) hc dX12_isWhole_67 rfl hf (fun hf => ?_) (fun hf => ?_)
  · refine j_iinc (w := (1 : Int32)) hc dX12_isWhole_106 rfl ci_1 (Nat.le_of_ble_eq_true rfl) hf (fun v1 hf => ?_)
    refine j_goto (tgt := 53) hc dX12_isWhole_109 rfl ?_
    exact j_sub (hk53 _ _ _ _ hf) (And.intro rfl (And.intro rfl (And.intro rfl (trivial))))
  · refine j_iload_n hc dX12_isWhole_70 rfl ?_
    refine j_if_eq (tgt := 98) hc dX12_isWhole_71 rfl hf (fun hf => ?_) (fun hf => ?_)
    · exact j_sub (tX12_isWhole_b98 n d hc k53 k64 hk53 hk64 _ _ _ _ hf) (And.intro rfl (And.intro rfl (And.intro rfl (trivial))))
    · refine j_aload_n hc dX12_isWhole_74 rfl ?_
      refine j_getR (u := 12) hc dX12_isWhole_75 fgM_X12_43_0 rM_0_18 ?_
      refine j_iconst (v := (2 : Int32)) hc dX12_isWhole_78 ci_2 ?_
      refine j_iload hc dX12_isWhole_79 rfl ?_
      refine j_imul hc dX12_isWhole_81 ?_
      refine j_iaload (n := 12) hc dX12_isWhole_82 kM_12 hf (fun v2 hf => ?_)
      refine j_aload_n hc dX12_isWhole_83 rfl ?_
      refine j_getR (u := 12) hc dX12_isWhole_84 fgM_X12_43_0 rM_0_18 ?_
      refine j_iconst (v := (2 : Int32)) hc dX12_isWhole_87 ci_2 ?_
      refine j_iload_n hc dX12_isWhole_88 rfl ?_
      refine j_imul hc dX12_isWhole_89 ?_
      refine j_iaload (n := 12) hc dX12_isWhole_90 kM_12 hf (fun v3 hf => ?_)
      refine j_icmp_eq (tgt := 98) hc dX12_isWhole_91 rfl hf (fun hf => ?_) (fun hf => ?_)
      · exact j_sub (tX12_isWhole_b98 n d hc k53 k64 hk53 hk64 _ _ _ _ hf) (And.intro rfl (And.intro rfl (And.intro rfl (trivial))))
      · refine j_iconst (v := (1 : Int32)) hc dX12_isWhole_94 ci_1 ?_
        refine j_goto (tgt := 99) hc dX12_isWhole_95 rfl ?_
        exact j_sub (tX12_isWhole_b99 n d hc k53 k64 hk53 hk64 _ _ _ _ _ hf) (And.intro rfl (And.intro rfl (And.intro rfl (trivial))))

def fX12_isWhole_b64 (n d : Nat) (k53 : Int32 → Int32 → am_I → am_L → Option (Int32 × am_I × am_L)) : Nat → Int32 → Int32 → Int32 → am_I → am_L → Option (Int32 × am_I × am_L)
  | 0 => fun _ _ _ _ _ => none
  | m + 1 => fX12_isWhole_b64w n d  k53 (fX12_isWhole_b64 n d k53 m)

set_option maxRecDepth 100000 in
theorem tX12_isWhole_b64 {x : am_X} (n d : Nat) (hc : am_ok x cX12_isWhole yX12_isWhole 5 (some .boolean) (d + 1) 0 0) {r : Int32} {I' : am_I} {L' : am_L} (k53 : Int32 → Int32 → am_I → am_L → Option (Int32 × am_I × am_L)) (hk53 : ∀ (a2 : Int32) (a3 : Int32) (I : am_I) (L : am_L), k53 a2 a3 I L = some (r, I', L') → am_J x (fun S => S = (some (.int r), KM, RM, I', L')) 53 [some (.ref 0), none, some (.int a2), some (.int a3), none] [] KM RM I L 0 0) (m : Nat) : ∀ (a2 : Int32) (a3 : Int32) (a4 : Int32) (I : am_I) (L : am_L) (hf : fX12_isWhole_b64 n d k53 m a2 a3 a4 I L = some (r, I', L')), am_J x (fun S => S = (some (.int r), KM, RM, I', L')) 64 [some (.ref 0), none, some (.int a2), some (.int a3), some (.int a4)] [] KM RM I L 0 0 := by
  induction m with
  | zero => intro a2 a3 a4 I L hf; exact (Option.some_ne_none _ hf.symm).elim
  | succ m ih => intro a2 a3 a4 I L hf; exact tX12_isWhole_b64w n d hc k53 (fX12_isWhole_b64 n d k53 m) hk53 ih a2 a3 a4 I L hf

set_option maxRecDepth 100000 in
def fX12_isWhole_b53w (n d : Nat) (k53 : Int32 → Int32 → am_I → am_L → Option (Int32 × am_I × am_L)) (a2 : Int32) (a3 : Int32) (I : am_I) (L : am_L) : Option (Int32 × am_I × am_L) :=
  if (I 0 21) ≤ a3 then
    (am_bl a2 (some (a2, I, L)))
    else
    (am_lt (0 : Int32) (fun v1 => fX12_isWhole_b64 n d k53 n a2 a3 v1 I L))

set_option maxRecDepth 100000 in
set_option maxHeartbeats 4000000 in
theorem tX12_isWhole_b53w {x : am_X} (n d : Nat) (hc : am_ok x cX12_isWhole yX12_isWhole 5 (some .boolean) (d + 1) 0 0) {r : Int32} {I' : am_I} {L' : am_L} (k53 : Int32 → Int32 → am_I → am_L → Option (Int32 × am_I × am_L)) (hk53 : ∀ (a2 : Int32) (a3 : Int32) (I : am_I) (L : am_L), k53 a2 a3 I L = some (r, I', L') → am_J x (fun S => S = (some (.int r), KM, RM, I', L')) 53 [some (.ref 0), none, some (.int a2), some (.int a3), none] [] KM RM I L 0 0) (a2 : Int32) (a3 : Int32) (I : am_I) (L : am_L) (hf : fX12_isWhole_b53w n d k53 a2 a3 I L = some (r, I', L')) : am_J x (fun S => S = (some (.int r), KM, RM, I', L')) 53 [some (.ref 0), none, some (.int a2), some (.int a3), none] [] KM RM I L 0 0 := by
  unfold fX12_isWhole_b53w at hf
  refine j_iload_n hc dX12_isWhole_53 rfl ?_
  refine j_aload_n hc dX12_isWhole_54 rfl ?_
  refine j_getI hc dX12_isWhole_55 fgM_X12_233_0 ?_
  refine j_icmp_ge (tgt := 112) hc dX12_isWhole_58 rfl hf (fun hf => ?_) (fun hf => ?_)
  · refine j_iload_n hc dX12_isWhole_112 rfl ?_
    exact j_zreturn hc dX12_isWhole_113 rfl rfl hf
  · refine j_iconst (v := (0 : Int32)) hc dX12_isWhole_61 ci_0 ?_
    refine j_istore hc dX12_isWhole_62 (Nat.le_of_ble_eq_true rfl) hf (fun v1 hf => ?_)
    exact j_sub (tX12_isWhole_b64 n d hc k53 hk53 n _ _ _ _ _ hf) (And.intro rfl (And.intro rfl (And.intro rfl (And.intro rfl (trivial)))))

def fX12_isWhole_b53 (n d : Nat) : Nat → Int32 → Int32 → am_I → am_L → Option (Int32 × am_I × am_L)
  | 0 => fun _ _ _ _ => none
  | m + 1 => fX12_isWhole_b53w n d  (fX12_isWhole_b53 n d m)

set_option maxRecDepth 100000 in
theorem tX12_isWhole_b53 {x : am_X} (n d : Nat) (hc : am_ok x cX12_isWhole yX12_isWhole 5 (some .boolean) (d + 1) 0 0) {r : Int32} {I' : am_I} {L' : am_L} (m : Nat) : ∀ (a2 : Int32) (a3 : Int32) (I : am_I) (L : am_L) (hf : fX12_isWhole_b53 n d m a2 a3 I L = some (r, I', L')), am_J x (fun S => S = (some (.int r), KM, RM, I', L')) 53 [some (.ref 0), none, some (.int a2), some (.int a3), none] [] KM RM I L 0 0 := by
  induction m with
  | zero => intro a2 a3 I L hf; exact (Option.some_ne_none _ hf.symm).elim
  | succ m ih => intro a2 a3 I L hf; exact tX12_isWhole_b53w n d hc (fX12_isWhole_b53 n d m) ih a2 a3 I L hf

set_option maxRecDepth 100000 in
def fX12_isWhole_b50 (n d : Nat) (s0 : Int32) (I : am_I) (L : am_L) : Option (Int32 × am_I × am_L) :=
  am_lt s0 (fun v1 => am_lt (0 : Int32) (fun v2 => fX12_isWhole_b53 n d n v1 v2 I L))

set_option maxRecDepth 100000 in
set_option maxHeartbeats 4000000 in
theorem tX12_isWhole_b50 {x : am_X} (n d : Nat) (hc : am_ok x cX12_isWhole yX12_isWhole 5 (some .boolean) (d + 1) 0 0) {r : Int32} {I' : am_I} {L' : am_L} (s0 : Int32) (I : am_I) (L : am_L) (hf : fX12_isWhole_b50 n d s0 I L = some (r, I', L')) : am_J x (fun S => S = (some (.int r), KM, RM, I', L')) 50 [some (.ref 0), none, none, none, none] [.int s0] KM RM I L 0 0 := by
  unfold fX12_isWhole_b50 at hf
  refine j_istore_n hc dX12_isWhole_50 (Nat.le_of_ble_eq_true rfl) hf (fun v1 hf => ?_)
  refine j_iconst (v := (0 : Int32)) hc dX12_isWhole_51 ci_0 ?_
  refine j_istore_n hc dX12_isWhole_52 (Nat.le_of_ble_eq_true rfl) hf (fun v2 hf => ?_)
  exact j_sub (tX12_isWhole_b53 n d hc n _ _ _ _ hf) (And.intro rfl (And.intro rfl (And.intro rfl (trivial))))

set_option maxRecDepth 100000 in
def fX12_isWhole_b49 (n d : Nat) (I : am_I) (L : am_L) : Option (Int32 × am_I × am_L) :=
  fX12_isWhole_b50 n d (0 : Int32) I L

set_option maxRecDepth 100000 in
set_option maxHeartbeats 4000000 in
theorem tX12_isWhole_b49 {x : am_X} (n d : Nat) (hc : am_ok x cX12_isWhole yX12_isWhole 5 (some .boolean) (d + 1) 0 0) {r : Int32} {I' : am_I} {L' : am_L} (I : am_I) (L : am_L) (hf : fX12_isWhole_b49 n d I L = some (r, I', L')) : am_J x (fun S => S = (some (.int r), KM, RM, I', L')) 49 [some (.ref 0), none, none, none, none] [] KM RM I L 0 0 := by
  unfold fX12_isWhole_b49 at hf
  refine j_iconst (v := (0 : Int32)) hc dX12_isWhole_49 ci_0 ?_
  exact j_sub (tX12_isWhole_b50 n d hc _ _ _ hf) (And.intro rfl (trivial))

set_option maxRecDepth 100000 in
def fX12_isWhole_b4w (n d : Nat) (k4 : Int32 → Int32 → am_I → am_L → Option (Int32 × am_I × am_L)) (a1 : Int32) (a2 : Int32) (I : am_I) (L : am_L) : Option (Int32 × am_I × am_L) :=
  if (I 0 20) ≤ a2 then
    (if (I 0 20) ≤ (1 : Int32) then
      (fX12_isWhole_b49 n d I L)
      else
      (if a1 = (3 : Int32) then
        (fX12_isWhole_b50 n d (1 : Int32) I L)
        else
        (fX12_isWhole_b49 n d I L)))
    else
    (am_ck ((6 : Int32) * a2) 48 (am_lt (I 11 (((6 : Int32) * a2)).toNatClampNeg) (fun v1 => am_lt (a1 ||| ((1 : Int32) <<< (v1 &&& 31))) (fun v2 => am_lt (a2 + (1 : Int32)) (fun v3 => k4 v2 v3 I L)))))

set_option maxRecDepth 100000 in
set_option maxHeartbeats 4000000 in
theorem tX12_isWhole_b4w {x : am_X} (n d : Nat) (hc : am_ok x cX12_isWhole yX12_isWhole 5 (some .boolean) (d + 1) 0 0) {r : Int32} {I' : am_I} {L' : am_L} (k4 : Int32 → Int32 → am_I → am_L → Option (Int32 × am_I × am_L)) (hk4 : ∀ (a1 : Int32) (a2 : Int32) (I : am_I) (L : am_L), k4 a1 a2 I L = some (r, I', L') → am_J x (fun S => S = (some (.int r), KM, RM, I', L')) 4 [some (.ref 0), some (.int a1), some (.int a2), none, none] [] KM RM I L 0 0) (a1 : Int32) (a2 : Int32) (I : am_I) (L : am_L) (hf : fX12_isWhole_b4w n d k4 a1 a2 I L = some (r, I', L')) : am_J x (fun S => S = (some (.int r), KM, RM, I', L')) 4 [some (.ref 0), some (.int a1), some (.int a2), none, none] [] KM RM I L 0 0 := by
  unfold fX12_isWhole_b4w at hf
  refine j_iload_n hc dX12_isWhole_4 rfl ?_
  refine j_aload_n hc dX12_isWhole_5 rfl ?_
  refine j_getI hc dX12_isWhole_6 fgM_X12_230_0 ?_
  refine j_icmp_ge (tgt := 32) hc dX12_isWhole_9 rfl hf (fun hf => ?_) (fun hf => ?_)
  · refine j_aload_n hc dX12_isWhole_32 rfl ?_
    refine j_getI hc dX12_isWhole_33 fgM_X12_230_0 ?_
    refine j_iconst (v := (1 : Int32)) hc dX12_isWhole_36 ci_1 ?_
    refine j_icmp_le (tgt := 49) hc dX12_isWhole_37 rfl hf (fun hf => ?_) (fun hf => ?_)
    · exact j_sub (tX12_isWhole_b49 n d hc _ _ hf) (And.intro rfl (trivial))
    · refine j_iload_n hc dX12_isWhole_40 rfl ?_
      refine j_iconst (v := (3 : Int32)) hc dX12_isWhole_41 ci_3 ?_
      refine j_icmp_ne (tgt := 49) hc dX12_isWhole_42 rfl hf (fun hf => ?_) (fun hf => ?_)
      · exact j_sub (tX12_isWhole_b49 n d hc _ _ hf) (And.intro rfl (trivial))
      · refine j_iconst (v := (1 : Int32)) hc dX12_isWhole_45 ci_1 ?_
        refine j_goto (tgt := 50) hc dX12_isWhole_46 rfl ?_
        exact j_sub (tX12_isWhole_b50 n d hc _ _ _ hf) (And.intro rfl (trivial))
  · refine j_iload_n hc dX12_isWhole_12 rfl ?_
    refine j_iconst (v := (1 : Int32)) hc dX12_isWhole_13 ci_1 ?_
    refine j_aload_n hc dX12_isWhole_14 rfl ?_
    refine j_getR (u := 11) hc dX12_isWhole_15 fgM_X12_40_0 rM_0_17 ?_
    refine j_bipush (v := (6 : Int32)) hc dX12_isWhole_18 cb_6 ?_
    refine j_iload_n hc dX12_isWhole_20 rfl ?_
    refine j_imul hc dX12_isWhole_21 ?_
    refine j_iaload (n := 48) hc dX12_isWhole_22 kM_11 hf (fun v1 hf => ?_)
    refine j_ishl hc dX12_isWhole_23 ?_
    refine j_ior hc dX12_isWhole_24 ?_
    refine j_istore_n hc dX12_isWhole_25 (Nat.le_of_ble_eq_true rfl) hf (fun v2 hf => ?_)
    refine j_iinc (w := (1 : Int32)) hc dX12_isWhole_26 rfl ci_1 (Nat.le_of_ble_eq_true rfl) hf (fun v3 hf => ?_)
    refine j_goto (tgt := 4) hc dX12_isWhole_29 rfl ?_
    exact j_sub (hk4 _ _ _ _ hf) (And.intro rfl (And.intro rfl (And.intro rfl (trivial))))

def fX12_isWhole_b4 (n d : Nat) : Nat → Int32 → Int32 → am_I → am_L → Option (Int32 × am_I × am_L)
  | 0 => fun _ _ _ _ => none
  | m + 1 => fX12_isWhole_b4w n d  (fX12_isWhole_b4 n d m)

set_option maxRecDepth 100000 in
theorem tX12_isWhole_b4 {x : am_X} (n d : Nat) (hc : am_ok x cX12_isWhole yX12_isWhole 5 (some .boolean) (d + 1) 0 0) {r : Int32} {I' : am_I} {L' : am_L} (m : Nat) : ∀ (a1 : Int32) (a2 : Int32) (I : am_I) (L : am_L) (hf : fX12_isWhole_b4 n d m a1 a2 I L = some (r, I', L')), am_J x (fun S => S = (some (.int r), KM, RM, I', L')) 4 [some (.ref 0), some (.int a1), some (.int a2), none, none] [] KM RM I L 0 0 := by
  induction m with
  | zero => intro a1 a2 I L hf; exact (Option.some_ne_none _ hf.symm).elim
  | succ m ih => intro a1 a2 I L hf; exact tX12_isWhole_b4w n d hc (fX12_isWhole_b4 n d m) ih a1 a2 I L hf

set_option maxRecDepth 100000 in
def fX12_isWhole (n d : Nat) (I : am_I) (L : am_L) : Option (Int32 × am_I × am_L) :=
  am_lt (0 : Int32) (fun v1 => am_lt (0 : Int32) (fun v2 => fX12_isWhole_b4 n d n v1 v2 I L))

set_option maxRecDepth 100000 in
set_option maxHeartbeats 4000000 in
theorem tX12_isWhole {x : am_X} (n d : Nat) (hc : am_ok x cX12_isWhole yX12_isWhole 5 (some .boolean) (d + 1) 0 0) {r : Int32} {I' : am_I} {L' : am_L} (I : am_I) (L : am_L) (hf : fX12_isWhole n d I L = some (r, I', L')) : am_J x (fun S => S = (some (.int r), KM, RM, I', L')) 0 [some (.ref 0), none, none, none, none] [] KM RM I L 0 0 := by
  unfold fX12_isWhole at hf
  refine j_iconst (v := (0 : Int32)) hc dX12_isWhole_0 ci_0 ?_
  refine j_istore_n hc dX12_isWhole_1 (Nat.le_of_ble_eq_true rfl) hf (fun v1 hf => ?_)
  refine j_iconst (v := (0 : Int32)) hc dX12_isWhole_2 ci_0 ?_
  refine j_istore_n hc dX12_isWhole_3 (Nat.le_of_ble_eq_true rfl) hf (fun v2 hf => ?_)
  exact j_sub (tX12_isWhole_b4 n d hc n _ _ _ _ hf) (And.intro rfl (And.intro rfl (And.intro rfl (trivial))))

set_option maxRecDepth 100000 in
theorem qX12_isWhole (l : Launch) (n d : Nat) (I : am_I) (L : am_L) (r : Int32) (I' : am_I) (L' : am_L) (hf : fX12_isWhole n d I L = some (r, I', L')) : am_C l yX12_isWhole cX12_isWhole 5 (some .boolean) (d + 1) [.ref 0] KM RM I L (some (.int r)) I' L' := by
  exact am_intro (plainFor_of_name plX12) (fun _ _ => trivial) (Nat.le_of_ble_eq_true rfl) (fun x hl hc => by subst hl; exact j_sub (tX12_isWhole n d hc  _ _ hf) (And.intro rfl (trivial)))
set_option maxRecDepth 100000 in
def fX12_readWar_b286 (n d : Nat) (I : am_I) (L : am_L) : Option (Int32 × am_I × am_L) :=
  some ((I 0 4), I, L)

set_option maxRecDepth 100000 in
set_option maxHeartbeats 4000000 in
theorem tX12_readWar_b286 {x : am_X} (n d : Nat) (hc : am_ok x cX12_readWar yX12_readWar 4 (some .int) (d + 5) 0 0) {r : Int32} {I' : am_I} {L' : am_L} (I : am_I) (L : am_L) (hf : fX12_readWar_b286 n d I L = some (r, I', L')) : am_J x (fun S => S = (some (.int r), KM, RM, I', L')) 286 [some (.ref 0), none, none, none] [] KM RM I L 0 0 := by
  unfold fX12_readWar_b286 at hf
  refine j_aload_n hc dX12_readWar_286 rfl ?_
  refine j_getI hc dX12_readWar_287 fgM_X12_108_0 ?_
  exact j_ireturn hc dX12_readWar_290 rfl rfl hf

set_option maxRecDepth 100000 in
def fX12_readWar_b282 (n d : Nat) (I : am_I) (L : am_L) : Option (Int32 × am_I × am_L) :=
  am_b2 (fX12_bad n d I L) (fun I1 L1 => fX12_readWar_b286 n d I1 L1)

set_option maxRecDepth 100000 in
set_option maxHeartbeats 4000000 in
theorem tX12_readWar_b282 {x : am_X} (n d : Nat) (hc : am_ok x cX12_readWar yX12_readWar 4 (some .int) (d + 5) 0 0) {r : Int32} {I' : am_I} {L' : am_L} (I : am_I) (L : am_L) (hf : fX12_readWar_b282 n d I L = some (r, I', L')) : am_J x (fun S => S = (some (.int r), KM, RM, I', L')) 282 [some (.ref 0), none, none, none] [] KM RM I L 0 0 := by
  unfold fX12_readWar_b282 at hf
  refine j_aload_n hc dX12_readWar_282 rfl ?_
  refine j_callVV (t := 0) (As := []) hc dX12_readWar_283 kw_1667 mX12_bad kM_0 clX12 rfl (by omega) (Nat.le_of_ble_eq_true rfl) (Nat.le_of_ble_eq_true rfl) ⟨Nat.le_refl _, Nat.le_refl _⟩ hf (fun I' L' h => qX12_bad x.2.1 n d I L I' L' h) (fun I1 L1 hf => ?_)
  exact j_sub (tX12_readWar_b286 n d hc _ _ hf) (And.intro rfl (trivial))

set_option maxRecDepth 100000 in
def fX12_readWar_b259 (n d : Nat) (I : am_I) (L : am_L) : Option (Int32 × am_I × am_L) :=
  if (I 0 4) = (-1 : Int32) then
    (am_b3 (fX12_look n d I L) (fun v1 I1 L1 => if v1 = (-1 : Int32) then
      (am_b3 (fX12_isWhole n d I1 L1) (fun v2 I2 L2 => if v2 = 0 then
        (fX12_readWar_b282 n d I2 L2)
        else
        (fX12_readWar_b286 n d I2 L2)))
      else
      (fX12_readWar_b282 n d I1 L1)))
    else
    (fX12_readWar_b286 n d I L)

set_option maxRecDepth 100000 in
set_option maxHeartbeats 4000000 in
theorem tX12_readWar_b259 {x : am_X} (n d : Nat) (hc : am_ok x cX12_readWar yX12_readWar 4 (some .int) (d + 5) 0 0) {r : Int32} {I' : am_I} {L' : am_L} (I : am_I) (L : am_L) (hf : fX12_readWar_b259 n d I L = some (r, I', L')) : am_J x (fun S => S = (some (.int r), KM, RM, I', L')) 259 [some (.ref 0), none, none, none] [] KM RM I L 0 0 := by
  unfold fX12_readWar_b259 at hf
  refine j_aload_n hc dX12_readWar_259 rfl ?_
  refine j_getI hc dX12_readWar_260 fgM_X12_108_0 ?_
  refine j_iconst (v := (-1 : Int32)) hc dX12_readWar_263 ci_m1 ?_
  refine j_icmp_ne (tgt := 286) hc dX12_readWar_264 rfl hf (fun hf => ?_) (fun hf => ?_)
  · exact j_sub (tX12_readWar_b286 n d hc _ _ hf) (And.intro rfl (trivial))
  · refine j_aload_n hc dX12_readWar_267 rfl ?_
    refine j_callVI (t := 0) (As := []) hc dX12_readWar_268 kw_1636 mX12_look kM_0 clX12 rfl (by omega) (Nat.le_of_ble_eq_true rfl) (Nat.le_of_ble_eq_true rfl) ⟨Nat.le_refl _, Nat.le_refl _⟩ hf (fun v I' L' h => qX12_look x.2.1 n d I L v I' L' h) (fun v1 I1 L1 hf => ?_)
    refine j_iconst (v := (-1 : Int32)) hc dX12_readWar_271 ci_m1 ?_
    refine j_icmp_ne (tgt := 282) hc dX12_readWar_272 rfl hf (fun hf => ?_) (fun hf => ?_)
    · exact j_sub (tX12_readWar_b282 n d hc _ _ hf) (And.intro rfl (trivial))
    · refine j_aload_n hc dX12_readWar_275 rfl ?_
      refine j_callVI (t := 0) (As := []) hc dX12_readWar_276 kw_1674 mX12_isWhole kM_0 clX12 rfl (by omega) (Nat.le_of_ble_eq_true rfl) (Nat.le_of_ble_eq_true rfl) ⟨Nat.le_refl _, Nat.le_refl _⟩ hf (fun v I' L' h => qX12_isWhole x.2.1 n d I1 L1 v I' L' h) (fun v2 I2 L2 hf => ?_)
      refine j_if_ne (tgt := 286) hc dX12_readWar_279 rfl hf (fun hf => ?_) (fun hf => ?_)
      · exact j_sub (tX12_readWar_b286 n d hc _ _ hf) (And.intro rfl (trivial))
      · exact j_sub (tX12_readWar_b282 n d hc _ _ hf) (And.intro rfl (trivial))

set_option maxRecDepth 100000 in
def fX12_readWar_b252 (n d : Nat) (k48 : Int32 → Int32 → am_I → am_L → Option (Int32 × am_I × am_L)) (s1 : Int32) (s2 : Int32) (a1 : Int32) (a2 : Int32) (I : am_I) (L : am_L) : Option (Int32 × am_I × am_L) :=
  am_lt (am_up I 0 3 (s1 + s2)) (fun I1 => k48 a1 a2 I1 L)

set_option maxRecDepth 100000 in
set_option maxHeartbeats 4000000 in
theorem tX12_readWar_b252 {x : am_X} (n d : Nat) (hc : am_ok x cX12_readWar yX12_readWar 4 (some .int) (d + 5) 0 0) {r : Int32} {I' : am_I} {L' : am_L} (k48 : Int32 → Int32 → am_I → am_L → Option (Int32 × am_I × am_L)) (hk48 : ∀ (a1 : Int32) (a2 : Int32) (I : am_I) (L : am_L), k48 a1 a2 I L = some (r, I', L') → am_J x (fun S => S = (some (.int r), KM, RM, I', L')) 48 [some (.ref 0), some (.int a1), some (.int a2), none] [] KM RM I L 0 0) (s1 : Int32) (s2 : Int32) (a1 : Int32) (a2 : Int32) (I : am_I) (L : am_L) (hf : fX12_readWar_b252 n d k48 s1 s2 a1 a2 I L = some (r, I', L')) : am_J x (fun S => S = (some (.int r), KM, RM, I', L')) 252 [some (.ref 0), some (.int a1), some (.int a2), none] [.int s2, .int s1, .ref 0] KM RM I L 0 0 := by
  unfold fX12_readWar_b252 at hf
  refine j_iadd hc dX12_readWar_252 ?_
  refine j_putI hc dX12_readWar_253 fpM_X12_101_0 rfl rfl hf (fun I1 hf => ?_)
  refine j_goto (tgt := 48) hc dX12_readWar_256 rfl ?_
  exact j_sub (hk48 _ _ _ _ hf) (And.intro rfl (And.intro rfl (And.intro rfl (trivial))))

set_option maxRecDepth 100000 in
def fX12_readWar_b237 (n d : Nat) (k48 : Int32 → Int32 → am_I → am_L → Option (Int32 × am_I × am_L)) (s0 : Int32) (a1 : Int32) (I : am_I) (L : am_L) : Option (Int32 × am_I × am_L) :=
  am_lt s0 (fun v1 => if v1 = 0 then
    (fX12_readWar_b252 n d k48 (I 0 3) (0 : Int32) a1 v1 I L)
    else
    (fX12_readWar_b252 n d k48 (I 0 3) (1 : Int32) a1 v1 I L))

set_option maxRecDepth 100000 in
set_option maxHeartbeats 4000000 in
theorem tX12_readWar_b237 {x : am_X} (n d : Nat) (hc : am_ok x cX12_readWar yX12_readWar 4 (some .int) (d + 5) 0 0) {r : Int32} {I' : am_I} {L' : am_L} (k48 : Int32 → Int32 → am_I → am_L → Option (Int32 × am_I × am_L)) (hk48 : ∀ (a1 : Int32) (a2 : Int32) (I : am_I) (L : am_L), k48 a1 a2 I L = some (r, I', L') → am_J x (fun S => S = (some (.int r), KM, RM, I', L')) 48 [some (.ref 0), some (.int a1), some (.int a2), none] [] KM RM I L 0 0) (s0 : Int32) (a1 : Int32) (I : am_I) (L : am_L) (hf : fX12_readWar_b237 n d k48 s0 a1 I L = some (r, I', L')) : am_J x (fun S => S = (some (.int r), KM, RM, I', L')) 237 [some (.ref 0), some (.int a1), none, none] [.int s0] KM RM I L 0 0 := by
  unfold fX12_readWar_b237 at hf
  refine j_istore_n hc dX12_readWar_237 (Nat.le_of_ble_eq_true rfl) hf (fun v1 hf => ?_)
  refine j_aload_n hc dX12_readWar_238 rfl ?_
  refine j_dup hc dX12_readWar_239 rfl ?_
  refine j_getI hc dX12_readWar_240 fgM_X12_101_0 ?_
  refine j_iload_n hc dX12_readWar_243 rfl ?_
  refine j_if_eq (tgt := 251) hc dX12_readWar_244 rfl hf (fun hf => ?_) (fun hf => ?_)
  · refine j_iconst (v := (0 : Int32)) hc dX12_readWar_251 ci_0 ?_
    exact j_sub (tX12_readWar_b252 n d hc k48 hk48 _ _ _ _ _ _ hf) (And.intro rfl (And.intro rfl (And.intro rfl (trivial))))
  · refine j_iconst (v := (1 : Int32)) hc dX12_readWar_247 ci_1 ?_
    refine j_goto (tgt := 252) hc dX12_readWar_248 rfl ?_
    exact j_sub (tX12_readWar_b252 n d hc k48 hk48 _ _ _ _ _ _ hf) (And.intro rfl (And.intro rfl (And.intro rfl (trivial))))

set_option maxRecDepth 100000 in
def fX12_readWar_b236 (n d : Nat) (k48 : Int32 → Int32 → am_I → am_L → Option (Int32 × am_I × am_L)) (a1 : Int32) (I : am_I) (L : am_L) : Option (Int32 × am_I × am_L) :=
  fX12_readWar_b237 n d k48 (0 : Int32) a1 I L

set_option maxRecDepth 100000 in
set_option maxHeartbeats 4000000 in
theorem tX12_readWar_b236 {x : am_X} (n d : Nat) (hc : am_ok x cX12_readWar yX12_readWar 4 (some .int) (d + 5) 0 0) {r : Int32} {I' : am_I} {L' : am_L} (k48 : Int32 → Int32 → am_I → am_L → Option (Int32 × am_I × am_L)) (hk48 : ∀ (a1 : Int32) (a2 : Int32) (I : am_I) (L : am_L), k48 a1 a2 I L = some (r, I', L') → am_J x (fun S => S = (some (.int r), KM, RM, I', L')) 48 [some (.ref 0), some (.int a1), some (.int a2), none] [] KM RM I L 0 0) (a1 : Int32) (I : am_I) (L : am_L) (hf : fX12_readWar_b236 n d k48 a1 I L = some (r, I', L')) : am_J x (fun S => S = (some (.int r), KM, RM, I', L')) 236 [some (.ref 0), some (.int a1), none, none] [] KM RM I L 0 0 := by
  unfold fX12_readWar_b236 at hf
  refine j_iconst (v := (0 : Int32)) hc dX12_readWar_236 ci_0 ?_
  exact j_sub (tX12_readWar_b237 n d hc k48 hk48 _ _ _ _ hf) (And.intro rfl (And.intro rfl (trivial)))

set_option maxRecDepth 100000 in
def fX12_readWar_b215 (n d : Nat) (k48 : Int32 → Int32 → am_I → am_L → Option (Int32 × am_I × am_L)) (a1 : Int32) (I : am_I) (L : am_L) : Option (Int32 × am_I × am_L) :=
  if (I 0 4) = (-1 : Int32) then
    (am_b3 (fX12_look n d I L) (fun v1 I1 L1 => if v1 = (59 : Int32) then
      (fX12_readWar_b237 n d k48 (1 : Int32) a1 I1 L1)
      else
      (fX12_readWar_b236 n d k48 a1 I1 L1)))
    else
    (fX12_readWar_b236 n d k48 a1 I L)

set_option maxRecDepth 100000 in
set_option maxHeartbeats 4000000 in
theorem tX12_readWar_b215 {x : am_X} (n d : Nat) (hc : am_ok x cX12_readWar yX12_readWar 4 (some .int) (d + 5) 0 0) {r : Int32} {I' : am_I} {L' : am_L} (k48 : Int32 → Int32 → am_I → am_L → Option (Int32 × am_I × am_L)) (hk48 : ∀ (a1 : Int32) (a2 : Int32) (I : am_I) (L : am_L), k48 a1 a2 I L = some (r, I', L') → am_J x (fun S => S = (some (.int r), KM, RM, I', L')) 48 [some (.ref 0), some (.int a1), some (.int a2), none] [] KM RM I L 0 0) (a1 : Int32) (I : am_I) (L : am_L) (hf : fX12_readWar_b215 n d k48 a1 I L = some (r, I', L')) : am_J x (fun S => S = (some (.int r), KM, RM, I', L')) 215 [some (.ref 0), some (.int a1), none, none] [] KM RM I L 0 0 := by
  unfold fX12_readWar_b215 at hf
  refine j_aload_n hc dX12_readWar_215 rfl ?_
  refine j_getI hc dX12_readWar_216 fgM_X12_108_0 ?_
  refine j_iconst (v := (-1 : Int32)) hc dX12_readWar_219 ci_m1 ?_
  refine j_icmp_ne (tgt := 236) hc dX12_readWar_220 rfl hf (fun hf => ?_) (fun hf => ?_)
  · exact j_sub (tX12_readWar_b236 n d hc k48 hk48 _ _ _ hf) (And.intro rfl (And.intro rfl (trivial)))
  · refine j_aload_n hc dX12_readWar_223 rfl ?_
    refine j_callVI (t := 0) (As := []) hc dX12_readWar_224 kw_1636 mX12_look kM_0 clX12 rfl (by omega) (Nat.le_of_ble_eq_true rfl) (Nat.le_of_ble_eq_true rfl) ⟨Nat.le_refl _, Nat.le_refl _⟩ hf (fun v I' L' h => qX12_look x.2.1 n d I L v I' L' h) (fun v1 I1 L1 hf => ?_)
    refine j_bipush (v := (59 : Int32)) hc dX12_readWar_227 cb_59 ?_
    refine j_icmp_ne (tgt := 236) hc dX12_readWar_229 rfl hf (fun hf => ?_) (fun hf => ?_)
    · exact j_sub (tX12_readWar_b236 n d hc k48 hk48 _ _ _ hf) (And.intro rfl (And.intro rfl (trivial)))
    · refine j_iconst (v := (1 : Int32)) hc dX12_readWar_232 ci_1 ?_
      refine j_goto (tgt := 237) hc dX12_readWar_233 rfl ?_
      exact j_sub (tX12_readWar_b237 n d hc k48 hk48 _ _ _ _ hf) (And.intro rfl (And.intro rfl (trivial)))

set_option maxRecDepth 100000 in
def fX12_readWar_b211 (n d : Nat) (k48 : Int32 → Int32 → am_I → am_L → Option (Int32 × am_I × am_L)) (a1 : Int32) (I : am_I) (L : am_L) : Option (Int32 × am_I × am_L) :=
  am_b2 (fX12_bad n d I L) (fun I1 L1 => fX12_readWar_b215 n d k48 a1 I1 L1)

set_option maxRecDepth 100000 in
set_option maxHeartbeats 4000000 in
theorem tX12_readWar_b211 {x : am_X} (n d : Nat) (hc : am_ok x cX12_readWar yX12_readWar 4 (some .int) (d + 5) 0 0) {r : Int32} {I' : am_I} {L' : am_L} (k48 : Int32 → Int32 → am_I → am_L → Option (Int32 × am_I × am_L)) (hk48 : ∀ (a1 : Int32) (a2 : Int32) (I : am_I) (L : am_L), k48 a1 a2 I L = some (r, I', L') → am_J x (fun S => S = (some (.int r), KM, RM, I', L')) 48 [some (.ref 0), some (.int a1), some (.int a2), none] [] KM RM I L 0 0) (a1 : Int32) (I : am_I) (L : am_L) (hf : fX12_readWar_b211 n d k48 a1 I L = some (r, I', L')) : am_J x (fun S => S = (some (.int r), KM, RM, I', L')) 211 [some (.ref 0), some (.int a1), none, none] [] KM RM I L 0 0 := by
  unfold fX12_readWar_b211 at hf
  refine j_aload_n hc dX12_readWar_211 rfl ?_
  refine j_callVV (t := 0) (As := []) hc dX12_readWar_212 kw_1667 mX12_bad kM_0 clX12 rfl (by omega) (Nat.le_of_ble_eq_true rfl) (Nat.le_of_ble_eq_true rfl) ⟨Nat.le_refl _, Nat.le_refl _⟩ hf (fun I' L' h => qX12_bad x.2.1 n d I L I' L' h) (fun I1 L1 hf => ?_)
  exact j_sub (tX12_readWar_b215 n d hc k48 hk48 _ _ _ hf) (And.intro rfl (And.intro rfl (trivial)))

set_option maxRecDepth 100000 in
def fX12_readWar_b175 (n d : Nat) (k48 : Int32 → Int32 → am_I → am_L → Option (Int32 × am_I × am_L)) (a1 : Int32) (a3 : Int32) (I : am_I) (L : am_L) : Option (Int32 × am_I × am_L) :=
  if a3 = (119 : Int32) then
    (if a1 = 0 then
      (am_lt (1 : Int32) (fun v1 => am_lt (am_up I 0 3 ((I 0 3) + (1 : Int32))) (fun I2 => am_b2 (fX12_items_readHow n d a3 (0 : Int32) (2 : Int32) I2 L) (fun I3 L3 => fX12_readWar_b215 n d k48 v1 I3 L3))))
      else
      (fX12_readWar_b211 n d k48 a1 I L))
    else
    (fX12_readWar_b211 n d k48 a1 I L)

set_option maxRecDepth 100000 in
set_option maxHeartbeats 4000000 in
theorem tX12_readWar_b175 {x : am_X} (n d : Nat) (hc : am_ok x cX12_readWar yX12_readWar 4 (some .int) (d + 5) 0 0) {r : Int32} {I' : am_I} {L' : am_L} (k48 : Int32 → Int32 → am_I → am_L → Option (Int32 × am_I × am_L)) (hk48 : ∀ (a1 : Int32) (a2 : Int32) (I : am_I) (L : am_L), k48 a1 a2 I L = some (r, I', L') → am_J x (fun S => S = (some (.int r), KM, RM, I', L')) 48 [some (.ref 0), some (.int a1), some (.int a2), none] [] KM RM I L 0 0) (a1 : Int32) (a3 : Int32) (I : am_I) (L : am_L) (hf : fX12_readWar_b175 n d k48 a1 a3 I L = some (r, I', L')) : am_J x (fun S => S = (some (.int r), KM, RM, I', L')) 175 [some (.ref 0), some (.int a1), none, some (.int a3)] [] KM RM I L 0 0 := by
  unfold fX12_readWar_b175 at hf
  refine j_iload_n hc dX12_readWar_175 rfl ?_
  refine j_bipush (v := (119 : Int32)) hc dX12_readWar_176 cb_119 ?_
  refine j_icmp_ne (tgt := 211) hc dX12_readWar_178 rfl hf (fun hf => ?_) (fun hf => ?_)
  · exact j_sub (tX12_readWar_b211 n d hc k48 hk48 _ _ _ hf) (And.intro rfl (And.intro rfl (trivial)))
  · refine j_iload_n hc dX12_readWar_181 rfl ?_
    refine j_if_ne (tgt := 211) hc dX12_readWar_182 rfl hf (fun hf => ?_) (fun hf => ?_)
    · exact j_sub (tX12_readWar_b211 n d hc k48 hk48 _ _ _ hf) (And.intro rfl (And.intro rfl (trivial)))
    · refine j_iconst (v := (1 : Int32)) hc dX12_readWar_185 ci_1 ?_
      refine j_istore_n hc dX12_readWar_186 (Nat.le_of_ble_eq_true rfl) hf (fun v1 hf => ?_)
      refine j_aload_n hc dX12_readWar_187 rfl ?_
      refine j_dup hc dX12_readWar_188 rfl ?_
      refine j_getI hc dX12_readWar_189 fgM_X12_101_0 ?_
      refine j_iconst (v := (1 : Int32)) hc dX12_readWar_192 ci_1 ?_
      refine j_iadd hc dX12_readWar_193 ?_
      refine j_putI hc dX12_readWar_194 fpM_X12_101_0 rfl rfl hf (fun I2 hf => ?_)
      refine j_aload_n hc dX12_readWar_197 rfl ?_
      refine j_iload_n hc dX12_readWar_198 rfl ?_
      refine j_aload_n hc dX12_readWar_199 rfl ?_
      refine j_getR (u := 13) hc dX12_readWar_200 fgM_X12_46_0 rM_0_19 ?_
      refine j_iconst (v := (0 : Int32)) hc dX12_readWar_203 ci_0 ?_
      refine j_iconst (v := (2 : Int32)) hc dX12_readWar_204 ci_2 ?_
      refine j_callVV (t := 0) (As := [.int a3, .ref 13, .int (0 : Int32), .int (2 : Int32)]) hc dX12_readWar_205 kw_1644 mX12_items kM_0 clX12 rfl (by omega) (Nat.le_of_ble_eq_true rfl) (Nat.le_of_ble_eq_true rfl) ⟨Nat.le_refl _, Nat.le_refl _⟩ hf (fun I' L' h => qX12_items_readHow x.2.1 n d a3 (0 : Int32) (2 : Int32) I2 L I' L' h) (fun I3 L3 hf => ?_)
      refine j_goto (tgt := 215) hc dX12_readWar_208 rfl ?_
      exact j_sub (tX12_readWar_b215 n d hc k48 hk48 _ _ _ hf) (And.intro rfl (And.intro rfl (trivial)))

set_option maxRecDepth 100000 in
def fX12_readWar_b121 (n d : Nat) (k48 : Int32 → Int32 → am_I → am_L → Option (Int32 × am_I × am_L)) (a1 : Int32) (a3 : Int32) (I : am_I) (L : am_L) : Option (Int32 × am_I × am_L) :=
  if a3 = (111 : Int32) then
    (if (6 : Int32) ≤ (I 0 21) then
      (fX12_readWar_b175 n d k48 a1 a3 I L)
      else
      (am_lt (am_up I 0 3 ((I 0 3) + (1 : Int32))) (fun I1 => am_b2 (fX12_items_readOrchard n d a3 ((2 : Int32) * (I1 0 21)) (2 : Int32) I1 L) (fun I2 L2 => am_lt (am_up I2 0 21 ((I2 0 21) + (1 : Int32))) (fun I3 => fX12_readWar_b215 n d k48 a1 I3 L2)))))
    else
    (fX12_readWar_b175 n d k48 a1 a3 I L)

set_option maxRecDepth 100000 in
set_option maxHeartbeats 4000000 in
theorem tX12_readWar_b121 {x : am_X} (n d : Nat) (hc : am_ok x cX12_readWar yX12_readWar 4 (some .int) (d + 5) 0 0) {r : Int32} {I' : am_I} {L' : am_L} (k48 : Int32 → Int32 → am_I → am_L → Option (Int32 × am_I × am_L)) (hk48 : ∀ (a1 : Int32) (a2 : Int32) (I : am_I) (L : am_L), k48 a1 a2 I L = some (r, I', L') → am_J x (fun S => S = (some (.int r), KM, RM, I', L')) 48 [some (.ref 0), some (.int a1), some (.int a2), none] [] KM RM I L 0 0) (a1 : Int32) (a3 : Int32) (I : am_I) (L : am_L) (hf : fX12_readWar_b121 n d k48 a1 a3 I L = some (r, I', L')) : am_J x (fun S => S = (some (.int r), KM, RM, I', L')) 121 [some (.ref 0), some (.int a1), none, some (.int a3)] [] KM RM I L 0 0 := by
  unfold fX12_readWar_b121 at hf
  refine j_iload_n hc dX12_readWar_121 rfl ?_
  refine j_bipush (v := (111 : Int32)) hc dX12_readWar_122 cb_111 ?_
  refine j_icmp_ne (tgt := 175) hc dX12_readWar_124 rfl hf (fun hf => ?_) (fun hf => ?_)
  · exact j_sub (tX12_readWar_b175 n d hc k48 hk48 _ _ _ _ hf) (And.intro rfl (And.intro rfl (And.intro rfl (trivial))))
  · refine j_aload_n hc dX12_readWar_127 rfl ?_
    refine j_getI hc dX12_readWar_128 fgM_X12_233_0 ?_
    refine j_bipush (v := (6 : Int32)) hc dX12_readWar_131 cb_6 ?_
    refine j_icmp_ge (tgt := 175) hc dX12_readWar_133 rfl hf (fun hf => ?_) (fun hf => ?_)
    · exact j_sub (tX12_readWar_b175 n d hc k48 hk48 _ _ _ _ hf) (And.intro rfl (And.intro rfl (And.intro rfl (trivial))))
    · refine j_aload_n hc dX12_readWar_136 rfl ?_
      refine j_dup hc dX12_readWar_137 rfl ?_
      refine j_getI hc dX12_readWar_138 fgM_X12_101_0 ?_
      refine j_iconst (v := (1 : Int32)) hc dX12_readWar_141 ci_1 ?_
      refine j_iadd hc dX12_readWar_142 ?_
      refine j_putI hc dX12_readWar_143 fpM_X12_101_0 rfl rfl hf (fun I1 hf => ?_)
      refine j_aload_n hc dX12_readWar_146 rfl ?_
      refine j_iload_n hc dX12_readWar_147 rfl ?_
      refine j_aload_n hc dX12_readWar_148 rfl ?_
      refine j_getR (u := 12) hc dX12_readWar_149 fgM_X12_43_0 rM_0_18 ?_
      refine j_iconst (v := (2 : Int32)) hc dX12_readWar_152 ci_2 ?_
      refine j_aload_n hc dX12_readWar_153 rfl ?_
      refine j_getI hc dX12_readWar_154 fgM_X12_233_0 ?_
      refine j_imul hc dX12_readWar_157 ?_
      refine j_iconst (v := (2 : Int32)) hc dX12_readWar_158 ci_2 ?_
      refine j_callVV (t := 0) (As := [.int a3, .ref 12, .int ((2 : Int32) * (I1 0 21)), .int (2 : Int32)]) hc dX12_readWar_159 kw_1644 mX12_items kM_0 clX12 rfl (by omega) (Nat.le_of_ble_eq_true rfl) (Nat.le_of_ble_eq_true rfl) ⟨Nat.le_refl _, Nat.le_refl _⟩ hf (fun I' L' h => qX12_items_readOrchard x.2.1 n d a3 ((2 : Int32) * (I1 0 21)) (2 : Int32) I1 L I' L' h) (fun I2 L2 hf => ?_)
      refine j_aload_n hc dX12_readWar_162 rfl ?_
      refine j_dup hc dX12_readWar_163 rfl ?_
      refine j_getI hc dX12_readWar_164 fgM_X12_233_0 ?_
      refine j_iconst (v := (1 : Int32)) hc dX12_readWar_167 ci_1 ?_
      refine j_iadd hc dX12_readWar_168 ?_
      refine j_putI hc dX12_readWar_169 fpM_X12_233_0 rfl rfl hf (fun I3 hf => ?_)
      refine j_goto (tgt := 215) hc dX12_readWar_172 rfl ?_
      exact j_sub (tX12_readWar_b215 n d hc k48 hk48 _ _ _ hf) (And.intro rfl (And.intro rfl (trivial)))

set_option maxRecDepth 100000 in
def fX12_readWar_b48w (n d : Nat) (k48 : Int32 → Int32 → am_I → am_L → Option (Int32 × am_I × am_L)) (a1 : Int32) (a2 : Int32) (I : am_I) (L : am_L) : Option (Int32 × am_I × am_L) :=
  if a2 = 0 then
    (fX12_readWar_b259 n d I L)
    else
    (if (I 0 4) = (-1 : Int32) then
      (am_b3 (fX12_look n d I L) (fun v1 I1 L1 => am_lt v1 (fun v2 => if v2 = (109 : Int32) then
        (if (8 : Int32) ≤ (I1 0 20) then
          (fX12_readWar_b121 n d k48 a1 v2 I1 L1)
          else
          (am_lt (am_up I1 0 3 ((I1 0 3) + (1 : Int32))) (fun I3 => am_b2 (fX12_items_readMan n d v2 ((6 : Int32) * (I3 0 20)) (6 : Int32) I3 L1) (fun I4 L4 => am_lt (am_up I4 0 20 ((I4 0 20) + (1 : Int32))) (fun I5 => fX12_readWar_b215 n d k48 a1 I5 L4)))))
        else
        (fX12_readWar_b121 n d k48 a1 v2 I1 L1))))
      else
      (fX12_readWar_b259 n d I L))

set_option maxRecDepth 100000 in
set_option maxHeartbeats 4000000 in
theorem tX12_readWar_b48w {x : am_X} (n d : Nat) (hc : am_ok x cX12_readWar yX12_readWar 4 (some .int) (d + 5) 0 0) {r : Int32} {I' : am_I} {L' : am_L} (k48 : Int32 → Int32 → am_I → am_L → Option (Int32 × am_I × am_L)) (hk48 : ∀ (a1 : Int32) (a2 : Int32) (I : am_I) (L : am_L), k48 a1 a2 I L = some (r, I', L') → am_J x (fun S => S = (some (.int r), KM, RM, I', L')) 48 [some (.ref 0), some (.int a1), some (.int a2), none] [] KM RM I L 0 0) (a1 : Int32) (a2 : Int32) (I : am_I) (L : am_L) (hf : fX12_readWar_b48w n d k48 a1 a2 I L = some (r, I', L')) : am_J x (fun S => S = (some (.int r), KM, RM, I', L')) 48 [some (.ref 0), some (.int a1), some (.int a2), none] [] KM RM I L 0 0 := by
  unfold fX12_readWar_b48w at hf
  refine j_iload_n hc dX12_readWar_48 rfl ?_
  refine j_if_eq (tgt := 259) hc dX12_readWar_49 rfl hf (fun hf => ?_) (fun hf => ?_)
  · exact j_sub (tX12_readWar_b259 n d hc _ _ hf) (And.intro rfl (trivial))
  · refine j_aload_n hc dX12_readWar_52 rfl ?_
    refine j_getI hc dX12_readWar_53 fgM_X12_108_0 ?_
    refine j_iconst (v := (-1 : Int32)) hc dX12_readWar_56 ci_m1 ?_
    refine j_icmp_ne (tgt := 259) hc dX12_readWar_57 rfl hf (fun hf => ?_) (fun hf => ?_)
    · exact j_sub (tX12_readWar_b259 n d hc _ _ hf) (And.intro rfl (trivial))
    · refine j_aload_n hc dX12_readWar_60 rfl ?_
      refine j_callVI (t := 0) (As := []) hc dX12_readWar_61 kw_1636 mX12_look kM_0 clX12 rfl (by omega) (Nat.le_of_ble_eq_true rfl) (Nat.le_of_ble_eq_true rfl) ⟨Nat.le_refl _, Nat.le_refl _⟩ hf (fun v I' L' h => qX12_look x.2.1 n d I L v I' L' h) (fun v1 I1 L1 hf => ?_)
      refine j_istore_n hc dX12_readWar_64 (Nat.le_of_ble_eq_true rfl) hf (fun v2 hf => ?_)
      refine j_iload_n hc dX12_readWar_65 rfl ?_
      refine j_bipush (v := (109 : Int32)) hc dX12_readWar_66 cb_109 ?_
      refine j_icmp_ne (tgt := 121) hc dX12_readWar_68 rfl hf (fun hf => ?_) (fun hf => ?_)
      · exact j_sub (tX12_readWar_b121 n d hc k48 hk48 _ _ _ _ hf) (And.intro rfl (And.intro rfl (And.intro rfl (trivial))))
      · refine j_aload_n hc dX12_readWar_71 rfl ?_
        refine j_getI hc dX12_readWar_72 fgM_X12_230_0 ?_
        refine j_bipush (v := (8 : Int32)) hc dX12_readWar_75 cb_8 ?_
        refine j_icmp_ge (tgt := 121) hc dX12_readWar_77 rfl hf (fun hf => ?_) (fun hf => ?_)
        · exact j_sub (tX12_readWar_b121 n d hc k48 hk48 _ _ _ _ hf) (And.intro rfl (And.intro rfl (And.intro rfl (trivial))))
        · refine j_aload_n hc dX12_readWar_80 rfl ?_
          refine j_dup hc dX12_readWar_81 rfl ?_
          refine j_getI hc dX12_readWar_82 fgM_X12_101_0 ?_
          refine j_iconst (v := (1 : Int32)) hc dX12_readWar_85 ci_1 ?_
          refine j_iadd hc dX12_readWar_86 ?_
          refine j_putI hc dX12_readWar_87 fpM_X12_101_0 rfl rfl hf (fun I3 hf => ?_)
          refine j_aload_n hc dX12_readWar_90 rfl ?_
          refine j_iload_n hc dX12_readWar_91 rfl ?_
          refine j_aload_n hc dX12_readWar_92 rfl ?_
          refine j_getR (u := 11) hc dX12_readWar_93 fgM_X12_40_0 rM_0_17 ?_
          refine j_bipush (v := (6 : Int32)) hc dX12_readWar_96 cb_6 ?_
          refine j_aload_n hc dX12_readWar_98 rfl ?_
          refine j_getI hc dX12_readWar_99 fgM_X12_230_0 ?_
          refine j_imul hc dX12_readWar_102 ?_
          refine j_bipush (v := (6 : Int32)) hc dX12_readWar_103 cb_6 ?_
          refine j_callVV (t := 0) (As := [.int v2, .ref 11, .int ((6 : Int32) * (I3 0 20)), .int (6 : Int32)]) hc dX12_readWar_105 kw_1644 mX12_items kM_0 clX12 rfl (by omega) (Nat.le_of_ble_eq_true rfl) (Nat.le_of_ble_eq_true rfl) ⟨Nat.le_refl _, Nat.le_refl _⟩ hf (fun I' L' h => qX12_items_readMan x.2.1 n d v2 ((6 : Int32) * (I3 0 20)) (6 : Int32) I3 L1 I' L' h) (fun I4 L4 hf => ?_)
          refine j_aload_n hc dX12_readWar_108 rfl ?_
          refine j_dup hc dX12_readWar_109 rfl ?_
          refine j_getI hc dX12_readWar_110 fgM_X12_230_0 ?_
          refine j_iconst (v := (1 : Int32)) hc dX12_readWar_113 ci_1 ?_
          refine j_iadd hc dX12_readWar_114 ?_
          refine j_putI hc dX12_readWar_115 fpM_X12_230_0 rfl rfl hf (fun I5 hf => ?_)
          refine j_goto (tgt := 215) hc dX12_readWar_118 rfl ?_
          exact j_sub (tX12_readWar_b215 n d hc k48 hk48 _ _ _ hf) (And.intro rfl (And.intro rfl (trivial)))

def fX12_readWar_b48 (n d : Nat) : Nat → Int32 → Int32 → am_I → am_L → Option (Int32 × am_I × am_L)
  | 0 => fun _ _ _ _ => none
  | m + 1 => fX12_readWar_b48w n d  (fX12_readWar_b48 n d m)

set_option maxRecDepth 100000 in
theorem tX12_readWar_b48 {x : am_X} (n d : Nat) (hc : am_ok x cX12_readWar yX12_readWar 4 (some .int) (d + 5) 0 0) {r : Int32} {I' : am_I} {L' : am_L} (m : Nat) : ∀ (a1 : Int32) (a2 : Int32) (I : am_I) (L : am_L) (hf : fX12_readWar_b48 n d m a1 a2 I L = some (r, I', L')), am_J x (fun S => S = (some (.int r), KM, RM, I', L')) 48 [some (.ref 0), some (.int a1), some (.int a2), none] [] KM RM I L 0 0 := by
  induction m with
  | zero => intro a1 a2 I L hf; exact (Option.some_ne_none _ hf.symm).elim
  | succ m ih => intro a1 a2 I L hf; exact tX12_readWar_b48w n d hc (fX12_readWar_b48 n d m) ih a1 a2 I L hf

set_option maxRecDepth 100000 in
def fX12_readWar (n d : Nat) (I : am_I) (L : am_L) : Option (Int32 × am_I × am_L) :=
  am_lt (am_up I 0 3 (0 : Int32)) (fun I1 => am_lt (am_up I1 0 4 (-1 : Int32)) (fun I2 => am_lt (am_up I2 0 20 (0 : Int32)) (fun I3 => am_lt (am_up I3 0 21 (0 : Int32)) (fun I4 => am_lt (0 : Int32) (fun v5 => am_b3 (fX12_usual n d (119 : Int32) (0 : Int32) I4 L) (fun v6 I6 L6 => am_ck (0 : Int32) 2 (am_lt (am_up I6 13 ((0 : Int32)).toNatClampNeg v6) (fun I7 => am_b3 (fX12_usual n d (119 : Int32) (1 : Int32) I7 L6) (fun v8 I8 L8 => am_ck (1 : Int32) 2 (am_lt (am_up I8 13 ((1 : Int32)).toNatClampNeg v8) (fun I9 => am_lt (1 : Int32) (fun v10 => fX12_readWar_b48 n d n v5 v10 I9 L8))))))))))))

set_option maxRecDepth 100000 in
set_option maxHeartbeats 4000000 in
theorem tX12_readWar {x : am_X} (n d : Nat) (hc : am_ok x cX12_readWar yX12_readWar 4 (some .int) (d + 5) 0 0) {r : Int32} {I' : am_I} {L' : am_L} (I : am_I) (L : am_L) (hf : fX12_readWar n d I L = some (r, I', L')) : am_J x (fun S => S = (some (.int r), KM, RM, I', L')) 0 [some (.ref 0), none, none, none] [] KM RM I L 0 0 := by
  unfold fX12_readWar at hf
  refine j_aload_n hc dX12_readWar_0 rfl ?_
  refine j_iconst (v := (0 : Int32)) hc dX12_readWar_1 ci_0 ?_
  refine j_putI hc dX12_readWar_2 fpM_X12_101_0 rfl rfl hf (fun I1 hf => ?_)
  refine j_aload_n hc dX12_readWar_5 rfl ?_
  refine j_iconst (v := (-1 : Int32)) hc dX12_readWar_6 ci_m1 ?_
  refine j_putI hc dX12_readWar_7 fpM_X12_108_0 rfl rfl hf (fun I2 hf => ?_)
  refine j_aload_n hc dX12_readWar_10 rfl ?_
  refine j_iconst (v := (0 : Int32)) hc dX12_readWar_11 ci_0 ?_
  refine j_putI hc dX12_readWar_12 fpM_X12_230_0 rfl rfl hf (fun I3 hf => ?_)
  refine j_aload_n hc dX12_readWar_15 rfl ?_
  refine j_iconst (v := (0 : Int32)) hc dX12_readWar_16 ci_0 ?_
  refine j_putI hc dX12_readWar_17 fpM_X12_233_0 rfl rfl hf (fun I4 hf => ?_)
  refine j_iconst (v := (0 : Int32)) hc dX12_readWar_20 ci_0 ?_
  refine j_istore_n hc dX12_readWar_21 (Nat.le_of_ble_eq_true rfl) hf (fun v5 hf => ?_)
  refine j_aload_n hc dX12_readWar_22 rfl ?_
  refine j_getR (u := 13) hc dX12_readWar_23 fgM_X12_46_0 rM_0_19 ?_
  refine j_iconst (v := (0 : Int32)) hc dX12_readWar_26 ci_0 ?_
  refine j_bipush (v := (119 : Int32)) hc dX12_readWar_27 cb_119 ?_
  refine j_iconst (v := (0 : Int32)) hc dX12_readWar_29 ci_0 ?_
  refine j_callSI (As := [.int (119 : Int32), .int (0 : Int32)]) hc dX12_readWar_30 kw_1633 mX12_usual  rfl (by omega) (Nat.le_of_ble_eq_true rfl) (Nat.le_of_ble_eq_true rfl) ⟨Nat.le_refl _, Nat.le_refl _⟩ hf (fun v I' L' h => qX12_usual x.2.1 n d (119 : Int32) (0 : Int32) I4 L v I' L' h) (fun v6 I6 L6 hf => ?_)
  refine j_iastore (n := 2) hc dX12_readWar_33 kM_13 hf (fun I7 hf => ?_)
  refine j_aload_n hc dX12_readWar_34 rfl ?_
  refine j_getR (u := 13) hc dX12_readWar_35 fgM_X12_46_0 rM_0_19 ?_
  refine j_iconst (v := (1 : Int32)) hc dX12_readWar_38 ci_1 ?_
  refine j_bipush (v := (119 : Int32)) hc dX12_readWar_39 cb_119 ?_
  refine j_iconst (v := (1 : Int32)) hc dX12_readWar_41 ci_1 ?_
  refine j_callSI (As := [.int (119 : Int32), .int (1 : Int32)]) hc dX12_readWar_42 kw_1633 mX12_usual  rfl (by omega) (Nat.le_of_ble_eq_true rfl) (Nat.le_of_ble_eq_true rfl) ⟨Nat.le_refl _, Nat.le_refl _⟩ hf (fun v I' L' h => qX12_usual x.2.1 n d (119 : Int32) (1 : Int32) I7 L6 v I' L' h) (fun v8 I8 L8 hf => ?_)
  refine j_iastore (n := 2) hc dX12_readWar_45 kM_13 hf (fun I9 hf => ?_)
  refine j_iconst (v := (1 : Int32)) hc dX12_readWar_46 ci_1 ?_
  refine j_istore_n hc dX12_readWar_47 (Nat.le_of_ble_eq_true rfl) hf (fun v10 hf => ?_)
  exact j_sub (tX12_readWar_b48 n d hc n _ _ _ _ hf) (And.intro rfl (And.intro rfl (And.intro rfl (trivial))))

set_option maxRecDepth 100000 in
theorem qX12_readWar (l : Launch) (n d : Nat) (I : am_I) (L : am_L) (r : Int32) (I' : am_I) (L' : am_L) (hf : fX12_readWar n d I L = some (r, I', L')) : am_C l yX12_readWar cX12_readWar 4 (some .int) (d + 5) [.ref 0] KM RM I L (some (.int r)) I' L' := by
  exact am_intro (plainFor_of_name plX12) (fun _ _ => trivial) (Nat.le_of_ble_eq_true rfl) (fun x hl hc => by subst hl; exact j_sub (tX12_readWar n d hc  _ _ hf) (And.intro rfl (trivial)))
set_option maxRecDepth 100000 in
def fX12_open (n d : Nat) (a1 : Int32) (I : am_I) (L : am_L) : Option (am_I × am_L) :=
  am_lt (am_up I 0 14 a1) (fun I1 => am_lt (am_up I1 0 3 (0 : Int32)) (fun I2 => am_lt (am_up I2 0 4 (-1 : Int32)) (fun I3 => am_lt (am_up I3 0 5 (0 : Int32)) (fun I4 => am_ck a1 5 (am_lt (am_up I4 4 (a1).toNatClampNeg (0 : Int32)) (fun I5 => am_ck a1 5 (am_lt (am_up I5 5 (a1).toNatClampNeg (0 : Int32)) (fun I6 => some (I6, L)))))))))

set_option maxRecDepth 100000 in
set_option maxHeartbeats 4000000 in
theorem tX12_open {x : am_X} (n d : Nat) (hc : am_ok x cX12_open yX12_open 2 none (d + 1) 0 0) {I' : am_I} {L' : am_L} (a1 : Int32) (I : am_I) (L : am_L) (hf : fX12_open n d a1 I L = some (I', L')) : am_J x (fun S => S = (none, KM, RM, I', L')) 0 [some (.ref 0), some (.int a1)] [] KM RM I L 0 0 := by
  unfold fX12_open at hf
  refine j_aload_n hc dX12_open_0 rfl ?_
  refine j_iload_n hc dX12_open_1 rfl ?_
  refine j_putI hc dX12_open_2 fpM_X12_111_0 rfl rfl hf (fun I1 hf => ?_)
  refine j_aload_n hc dX12_open_5 rfl ?_
  refine j_iconst (v := (0 : Int32)) hc dX12_open_6 ci_0 ?_
  refine j_putI hc dX12_open_7 fpM_X12_101_0 rfl rfl hf (fun I2 hf => ?_)
  refine j_aload_n hc dX12_open_10 rfl ?_
  refine j_iconst (v := (-1 : Int32)) hc dX12_open_11 ci_m1 ?_
  refine j_putI hc dX12_open_12 fpM_X12_108_0 rfl rfl hf (fun I3 hf => ?_)
  refine j_aload_n hc dX12_open_15 rfl ?_
  refine j_iconst (v := (0 : Int32)) hc dX12_open_16 ci_0 ?_
  refine j_putI hc dX12_open_17 fpM_X12_114_0 rfl rfl hf (fun I4 hf => ?_)
  refine j_aload_n hc dX12_open_20 rfl ?_
  refine j_getR (u := 4) hc dX12_open_21 fgM_X12_19_0 rM_0_8 ?_
  refine j_iload_n hc dX12_open_24 rfl ?_
  refine j_iconst (v := (0 : Int32)) hc dX12_open_25 ci_0 ?_
  refine j_iastore (n := 5) hc dX12_open_26 kM_4 hf (fun I5 hf => ?_)
  refine j_aload_n hc dX12_open_27 rfl ?_
  refine j_getR (u := 5) hc dX12_open_28 fgM_X12_22_0 rM_0_9 ?_
  refine j_iload_n hc dX12_open_31 rfl ?_
  refine j_iconst (v := (0 : Int32)) hc dX12_open_32 ci_0 ?_
  refine j_iastore (n := 5) hc dX12_open_33 kM_5 hf (fun I6 hf => ?_)
  exact j_return hc dX12_open_34 rfl rfl hf

set_option maxRecDepth 100000 in
theorem qX12_open (l : Launch) (n d : Nat) (a1 : Int32) (I : am_I) (L : am_L) (I' : am_I) (L' : am_L) (hf : fX12_open n d a1 I L = some (I', L')) : am_C l yX12_open cX12_open 2 none (d + 1) [.ref 0, .int a1] KM RM I L none I' L' := by
  exact am_intro (plainFor_of_name plX12) (fun _ _ => trivial) (Nat.le_of_ble_eq_true rfl) (fun x hl hc => by subst hl; exact j_sub (tX12_open n d hc _ _ _ hf) (And.intro rfl (And.intro rfl (trivial))))
set_option maxRecDepth 100000 in
def fX12_opens_b13 (n d : Nat) (I : am_I) (L : am_L) : Option (am_I × am_L) :=
  am_lt (am_up I 0 5 ((I 0 5) + (1 : Int32))) (fun I1 => am_lt (am_up I1 0 3 ((I1 0 3) + (1 : Int32))) (fun I2 => some (I2, L)))

set_option maxRecDepth 100000 in
set_option maxHeartbeats 4000000 in
theorem tX12_opens_b13 {x : am_X} (n d : Nat) (hc : am_ok x cX12_opens yX12_opens 1 none (d + 2) 0 0) {I' : am_I} {L' : am_L} (I : am_I) (L : am_L) (hf : fX12_opens_b13 n d I L = some (I', L')) : am_J x (fun S => S = (none, KM, RM, I', L')) 13 [some (.ref 0)] [] KM RM I L 0 0 := by
  unfold fX12_opens_b13 at hf
  refine j_aload_n hc dX12_opens_13 rfl ?_
  refine j_dup hc dX12_opens_14 rfl ?_
  refine j_getI hc dX12_opens_15 fgM_X12_114_0 ?_
  refine j_iconst (v := (1 : Int32)) hc dX12_opens_18 ci_1 ?_
  refine j_iadd hc dX12_opens_19 ?_
  refine j_putI hc dX12_opens_20 fpM_X12_114_0 rfl rfl hf (fun I1 hf => ?_)
  refine j_aload_n hc dX12_opens_23 rfl ?_
  refine j_dup hc dX12_opens_24 rfl ?_
  refine j_getI hc dX12_opens_25 fgM_X12_101_0 ?_
  refine j_iconst (v := (1 : Int32)) hc dX12_opens_28 ci_1 ?_
  refine j_iadd hc dX12_opens_29 ?_
  refine j_putI hc dX12_opens_30 fpM_X12_101_0 rfl rfl hf (fun I2 hf => ?_)
  exact j_return hc dX12_opens_33 rfl rfl hf

set_option maxRecDepth 100000 in
def fX12_opens (n d : Nat) (I : am_I) (L : am_L) : Option (am_I × am_L) :=
  if (I 0 5) = (6 : Int32) then
    (am_b2 (fX12_bad n d I L) (fun I1 L1 => fX12_opens_b13 n d I1 L1))
    else
    (fX12_opens_b13 n d I L)

set_option maxRecDepth 100000 in
set_option maxHeartbeats 4000000 in
theorem tX12_opens {x : am_X} (n d : Nat) (hc : am_ok x cX12_opens yX12_opens 1 none (d + 2) 0 0) {I' : am_I} {L' : am_L} (I : am_I) (L : am_L) (hf : fX12_opens n d I L = some (I', L')) : am_J x (fun S => S = (none, KM, RM, I', L')) 0 [some (.ref 0)] [] KM RM I L 0 0 := by
  unfold fX12_opens at hf
  refine j_aload_n hc dX12_opens_0 rfl ?_
  refine j_getI hc dX12_opens_1 fgM_X12_114_0 ?_
  refine j_bipush (v := (6 : Int32)) hc dX12_opens_4 cb_6 ?_
  refine j_icmp_ne (tgt := 13) hc dX12_opens_6 rfl hf (fun hf => ?_) (fun hf => ?_)
  · exact j_sub (tX12_opens_b13 n d hc _ _ hf) (And.intro rfl (trivial))
  · refine j_aload_n hc dX12_opens_9 rfl ?_
    refine j_callVV (t := 0) (As := []) hc dX12_opens_10 kw_1667 mX12_bad kM_0 clX12 rfl (by omega) (Nat.le_of_ble_eq_true rfl) (Nat.le_of_ble_eq_true rfl) ⟨Nat.le_refl _, Nat.le_refl _⟩ hf (fun I' L' h => qX12_bad x.2.1 n d I L I' L' h) (fun I1 L1 hf => ?_)
    exact j_sub (tX12_opens_b13 n d hc _ _ hf) (And.intro rfl (trivial))

set_option maxRecDepth 100000 in
theorem qX12_opens (l : Launch) (n d : Nat) (I : am_I) (L : am_L) (I' : am_I) (L' : am_L) (hf : fX12_opens n d I L = some (I', L')) : am_C l yX12_opens cX12_opens 1 none (d + 2) [.ref 0] KM RM I L none I' L' := by
  exact am_intro (plainFor_of_name plX12) (fun _ _ => trivial) (Nat.le_of_ble_eq_true rfl) (fun x hl hc => by subst hl; exact j_sub (tX12_opens n d hc  _ _ hf) (And.intro rfl (trivial)))
set_option maxRecDepth 100000 in
def fX12_put (n d : Nat) (a1 : Int32) (a2 : Int32) (I : am_I) (L : am_L) : Option (am_I × am_L) :=
  am_ck (I 0 14) 5 (am_lt (I 4 ((I 0 14)).toNatClampNeg) (fun v1 => am_ck (((520 : Int32) * (I 0 14)) + v1) 2600 (am_lt (am_up I 2 ((((520 : Int32) * (I 0 14)) + v1)).toNatClampNeg a1) (fun I2 => am_ck (I2 0 14) 5 (am_lt (I2 4 ((I2 0 14)).toNatClampNeg) (fun v3 => am_ck (((520 : Int32) * (I2 0 14)) + v3) 2600 (am_lt (am_up I2 3 ((((520 : Int32) * (I2 0 14)) + v3)).toNatClampNeg a2) (fun I4 => am_ck (I4 0 14) 5 (am_lt (I4 4 ((I4 0 14)).toNatClampNeg) (fun v5 => am_ck (I4 0 14) 5 (am_lt (am_up I4 4 ((I4 0 14)).toNatClampNeg (v5 + (1 : Int32))) (fun I6 => some (I6, L)))))))))))))

set_option maxRecDepth 100000 in
set_option maxHeartbeats 4000000 in
theorem tX12_put {x : am_X} (n d : Nat) (hc : am_ok x cX12_put yX12_put 3 none (d + 1) 0 0) {I' : am_I} {L' : am_L} (a1 : Int32) (a2 : Int32) (I : am_I) (L : am_L) (hf : fX12_put n d a1 a2 I L = some (I', L')) : am_J x (fun S => S = (none, KM, RM, I', L')) 0 [some (.ref 0), some (.int a1), some (.int a2)] [] KM RM I L 0 0 := by
  unfold fX12_put at hf
  refine j_aload_n hc dX12_put_0 rfl ?_
  refine j_getR (u := 2) hc dX12_put_1 fgM_X12_13_0 rM_0_6 ?_
  refine j_sipush (v := (520 : Int32)) hc dX12_put_4 cs_520 ?_
  refine j_aload_n hc dX12_put_7 rfl ?_
  refine j_getI hc dX12_put_8 fgM_X12_111_0 ?_
  refine j_imul hc dX12_put_11 ?_
  refine j_aload_n hc dX12_put_12 rfl ?_
  refine j_getR (u := 4) hc dX12_put_13 fgM_X12_19_0 rM_0_8 ?_
  refine j_aload_n hc dX12_put_16 rfl ?_
  refine j_getI hc dX12_put_17 fgM_X12_111_0 ?_
  refine j_iaload (n := 5) hc dX12_put_20 kM_4 hf (fun v1 hf => ?_)
  refine j_iadd hc dX12_put_21 ?_
  refine j_iload_n hc dX12_put_22 rfl ?_
  refine j_iastore (n := 2600) hc dX12_put_23 kM_2 hf (fun I2 hf => ?_)
  refine j_aload_n hc dX12_put_24 rfl ?_
  refine j_getR (u := 3) hc dX12_put_25 fgM_X12_16_0 rM_0_7 ?_
  refine j_sipush (v := (520 : Int32)) hc dX12_put_28 cs_520 ?_
  refine j_aload_n hc dX12_put_31 rfl ?_
  refine j_getI hc dX12_put_32 fgM_X12_111_0 ?_
  refine j_imul hc dX12_put_35 ?_
  refine j_aload_n hc dX12_put_36 rfl ?_
  refine j_getR (u := 4) hc dX12_put_37 fgM_X12_19_0 rM_0_8 ?_
  refine j_aload_n hc dX12_put_40 rfl ?_
  refine j_getI hc dX12_put_41 fgM_X12_111_0 ?_
  refine j_iaload (n := 5) hc dX12_put_44 kM_4 hf (fun v3 hf => ?_)
  refine j_iadd hc dX12_put_45 ?_
  refine j_iload_n hc dX12_put_46 rfl ?_
  refine j_iastore (n := 2600) hc dX12_put_47 kM_3 hf (fun I4 hf => ?_)
  refine j_aload_n hc dX12_put_48 rfl ?_
  refine j_getR (u := 4) hc dX12_put_49 fgM_X12_19_0 rM_0_8 ?_
  refine j_aload_n hc dX12_put_52 rfl ?_
  refine j_getI hc dX12_put_53 fgM_X12_111_0 ?_
  refine j_dup2 hc dX12_put_56 rfl rfl ?_
  refine j_iaload (n := 5) hc dX12_put_57 kM_4 hf (fun v5 hf => ?_)
  refine j_iconst (v := (1 : Int32)) hc dX12_put_58 ci_1 ?_
  refine j_iadd hc dX12_put_59 ?_
  refine j_iastore (n := 5) hc dX12_put_60 kM_4 hf (fun I6 hf => ?_)
  exact j_return hc dX12_put_61 rfl rfl hf

set_option maxRecDepth 100000 in
theorem qX12_put (l : Launch) (n d : Nat) (a1 : Int32) (a2 : Int32) (I : am_I) (L : am_L) (I' : am_I) (L' : am_L) (hf : fX12_put n d a1 a2 I L = some (I', L')) : am_C l yX12_put cX12_put 3 none (d + 1) [.ref 0, .int a1, .int a2] KM RM I L none I' L' := by
  exact am_intro (plainFor_of_name plX12) (fun _ _ => trivial) (Nat.le_of_ble_eq_true rfl) (fun x hl hc => by subst hl; exact j_sub (tX12_put n d hc _ _ _ _ hf) (And.intro rfl (And.intro rfl (And.intro rfl (trivial)))))
set_option maxRecDepth 100000 in
def fX12_closes_b20 (n d : Nat) (I : am_I) (L : am_L) : Option (am_I × am_L) :=
  am_lt (am_up I 0 3 ((I 0 3) + (1 : Int32))) (fun I1 => am_lt (am_up I1 0 5 ((I1 0 5) - (1 : Int32))) (fun I2 => some (I2, L)))

set_option maxRecDepth 100000 in
set_option maxHeartbeats 4000000 in
theorem tX12_closes_b20 {x : am_X} (n d : Nat) (hc : am_ok x cX12_closes yX12_closes 2 none (d + 3) 0 0) {I' : am_I} {L' : am_L} (I : am_I) (L : am_L) (hf : fX12_closes_b20 n d I L = some (I', L')) : am_J x (fun S => S = (none, KM, RM, I', L')) 20 [some (.ref 0), none] [] KM RM I L 0 0 := by
  unfold fX12_closes_b20 at hf
  refine j_aload_n hc dX12_closes_20 rfl ?_
  refine j_dup hc dX12_closes_21 rfl ?_
  refine j_getI hc dX12_closes_22 fgM_X12_101_0 ?_
  refine j_iconst (v := (1 : Int32)) hc dX12_closes_25 ci_1 ?_
  refine j_iadd hc dX12_closes_26 ?_
  refine j_putI hc dX12_closes_27 fpM_X12_101_0 rfl rfl hf (fun I1 hf => ?_)
  refine j_aload_n hc dX12_closes_30 rfl ?_
  refine j_dup hc dX12_closes_31 rfl ?_
  refine j_getI hc dX12_closes_32 fgM_X12_114_0 ?_
  refine j_iconst (v := (1 : Int32)) hc dX12_closes_35 ci_1 ?_
  refine j_isub hc dX12_closes_36 ?_
  refine j_putI hc dX12_closes_37 fpM_X12_114_0 rfl rfl hf (fun I2 hf => ?_)
  exact j_return hc dX12_closes_40 rfl rfl hf

set_option maxRecDepth 100000 in
def fX12_closes (n d : Nat) (a1 : Int32) (I : am_I) (L : am_L) : Option (am_I × am_L) :=
  if (I 0 4) = (-1 : Int32) then
    (am_b3 (fX12_look n d I L) (fun v1 I1 L1 => if v1 = a1 then
      (fX12_closes_b20 n d I1 L1)
      else
      (am_b2 (fX12_bad n d I1 L1) (fun I2 L2 => fX12_closes_b20 n d I2 L2))))
    else
    (fX12_closes_b20 n d I L)

set_option maxRecDepth 100000 in
set_option maxHeartbeats 4000000 in
theorem tX12_closes {x : am_X} (n d : Nat) (hc : am_ok x cX12_closes yX12_closes 2 none (d + 3) 0 0) {I' : am_I} {L' : am_L} (a1 : Int32) (I : am_I) (L : am_L) (hf : fX12_closes n d a1 I L = some (I', L')) : am_J x (fun S => S = (none, KM, RM, I', L')) 0 [some (.ref 0), some (.int a1)] [] KM RM I L 0 0 := by
  unfold fX12_closes at hf
  refine j_aload_n hc dX12_closes_0 rfl ?_
  refine j_getI hc dX12_closes_1 fgM_X12_108_0 ?_
  refine j_iconst (v := (-1 : Int32)) hc dX12_closes_4 ci_m1 ?_
  refine j_icmp_ne (tgt := 20) hc dX12_closes_5 rfl hf (fun hf => ?_) (fun hf => ?_)
  · exact j_sub (tX12_closes_b20 n d hc _ _ hf) (And.intro rfl (trivial))
  · refine j_aload_n hc dX12_closes_8 rfl ?_
    refine j_callVI (t := 0) (As := []) hc dX12_closes_9 kw_1636 mX12_look kM_0 clX12 rfl (by omega) (Nat.le_of_ble_eq_true rfl) (Nat.le_of_ble_eq_true rfl) ⟨Nat.le_refl _, Nat.le_refl _⟩ hf (fun v I' L' h => qX12_look x.2.1 n d I L v I' L' h) (fun v1 I1 L1 hf => ?_)
    refine j_iload_n hc dX12_closes_12 rfl ?_
    refine j_icmp_eq (tgt := 20) hc dX12_closes_13 rfl hf (fun hf => ?_) (fun hf => ?_)
    · exact j_sub (tX12_closes_b20 n d hc _ _ hf) (And.intro rfl (trivial))
    · refine j_aload_n hc dX12_closes_16 rfl ?_
      refine j_callVV (t := 0) (As := []) hc dX12_closes_17 kw_1667 mX12_bad kM_0 clX12 rfl (by omega) (Nat.le_of_ble_eq_true rfl) (Nat.le_of_ble_eq_true rfl) ⟨Nat.le_refl _, Nat.le_refl _⟩ hf (fun I' L' h => qX12_bad x.2.1 n d I1 L1 I' L' h) (fun I2 L2 hf => ?_)
      exact j_sub (tX12_closes_b20 n d hc _ _ hf) (And.intro rfl (trivial))

set_option maxRecDepth 100000 in
theorem qX12_closes (l : Launch) (n d : Nat) (a1 : Int32) (I : am_I) (L : am_L) (I' : am_I) (L' : am_L) (hf : fX12_closes n d a1 I L = some (I', L')) : am_C l yX12_closes cX12_closes 2 none (d + 3) [.ref 0, .int a1] KM RM I L none I' L' := by
  exact am_intro (plainFor_of_name plX12) (fun _ _ => trivial) (Nat.le_of_ble_eq_true rfl) (fun x hl hc => by subst hl; exact j_sub (tX12_closes n d hc _ _ _ hf) (And.intro rfl (And.intro rfl (trivial))))
set_option maxRecDepth 100000 in
def fX12_plainNumber_b48 (n d : Nat) (a1 : Int32) (I : am_I) (L : am_L) : Option (Int32 × am_I × am_L) :=
  am_b3 (fX12_here n d I L) (fun v1 I1 L1 => am_b3 (fX12_isDigit n d v1 I1 L1) (fun v2 I2 L2 => if v2 = 0 then
    (some (a1, I2, L2))
    else
    (am_b2 (fX12_bad n d I2 L2) (fun I3 L3 => some (a1, I3, L3)))))

set_option maxRecDepth 100000 in
set_option maxHeartbeats 4000000 in
theorem tX12_plainNumber_b48 {x : am_X} (n d : Nat) (hc : am_ok x cX12_plainNumber yX12_plainNumber 3 (some .int) (d + 2) 0 0) {r : Int32} {I' : am_I} {L' : am_L} (a1 : Int32) (I : am_I) (L : am_L) (hf : fX12_plainNumber_b48 n d a1 I L = some (r, I', L')) : am_J x (fun S => S = (some (.int r), KM, RM, I', L')) 48 [some (.ref 0), some (.int a1), none] [] KM RM I L 0 0 := by
  unfold fX12_plainNumber_b48 at hf
  refine j_aload_n hc dX12_plainNumber_48 rfl ?_
  refine j_callVI (t := 0) (As := []) hc dX12_plainNumber_49 kw_1640 mX12_here kM_0 clX12 rfl (by omega) (Nat.le_of_ble_eq_true rfl) (Nat.le_of_ble_eq_true rfl) ⟨Nat.le_refl _, Nat.le_refl _⟩ hf (fun v I' L' h => qX12_here x.2.1 n d I L v I' L' h) (fun v1 I1 L1 hf => ?_)
  refine j_callSI (As := [.int v1]) hc dX12_plainNumber_52 kw_1664 mX12_isDigit  rfl (by omega) (Nat.le_of_ble_eq_true rfl) (Nat.le_of_ble_eq_true rfl) ⟨Nat.le_refl _, Nat.le_refl _⟩ hf (fun v I' L' h => qX12_isDigit x.2.1 n d v1 I1 L1 v I' L' h) (fun v2 I2 L2 hf => ?_)
  refine j_if_eq (tgt := 62) hc dX12_plainNumber_55 rfl hf (fun hf => ?_) (fun hf => ?_)
  · refine j_iload_n hc dX12_plainNumber_62 rfl ?_
    exact j_ireturn hc dX12_plainNumber_63 rfl rfl hf
  · refine j_aload_n hc dX12_plainNumber_58 rfl ?_
    refine j_callVV (t := 0) (As := []) hc dX12_plainNumber_59 kw_1667 mX12_bad kM_0 clX12 rfl (by omega) (Nat.le_of_ble_eq_true rfl) (Nat.le_of_ble_eq_true rfl) ⟨Nat.le_refl _, Nat.le_refl _⟩ hf (fun I' L' h => qX12_bad x.2.1 n d I2 L2 I' L' h) (fun I3 L3 hf => ?_)
    refine j_iload_n hc dX12_plainNumber_62 rfl ?_
    exact j_ireturn hc dX12_plainNumber_63 rfl rfl hf

set_option maxRecDepth 100000 in
def fX12_plainNumber_b4w (n d : Nat) (k4 : Int32 → Int32 → am_I → am_L → Option (Int32 × am_I × am_L)) (a1 : Int32) (a2 : Int32) (I : am_I) (L : am_L) : Option (Int32 × am_I × am_L) :=
  if (4 : Int32) ≤ a2 then
    (fX12_plainNumber_b48 n d a1 I L)
    else
    (am_b3 (fX12_here n d I L) (fun v1 I1 L1 => am_b3 (fX12_isDigit n d v1 I1 L1) (fun v2 I2 L2 => if v2 = 0 then
      (fX12_plainNumber_b48 n d a1 I2 L2)
      else
      (am_b3 (fX12_here n d I2 L2) (fun v3 I3 L3 => am_lt ((((10 : Int32) * a1) + v3) - (48 : Int32)) (fun v4 => am_lt (am_up I3 0 3 ((I3 0 3) + (1 : Int32))) (fun I5 => am_lt (a2 + (1 : Int32)) (fun v6 => k4 v4 v6 I5 L3))))))))

set_option maxRecDepth 100000 in
set_option maxHeartbeats 4000000 in
theorem tX12_plainNumber_b4w {x : am_X} (n d : Nat) (hc : am_ok x cX12_plainNumber yX12_plainNumber 3 (some .int) (d + 2) 0 0) {r : Int32} {I' : am_I} {L' : am_L} (k4 : Int32 → Int32 → am_I → am_L → Option (Int32 × am_I × am_L)) (hk4 : ∀ (a1 : Int32) (a2 : Int32) (I : am_I) (L : am_L), k4 a1 a2 I L = some (r, I', L') → am_J x (fun S => S = (some (.int r), KM, RM, I', L')) 4 [some (.ref 0), some (.int a1), some (.int a2)] [] KM RM I L 0 0) (a1 : Int32) (a2 : Int32) (I : am_I) (L : am_L) (hf : fX12_plainNumber_b4w n d k4 a1 a2 I L = some (r, I', L')) : am_J x (fun S => S = (some (.int r), KM, RM, I', L')) 4 [some (.ref 0), some (.int a1), some (.int a2)] [] KM RM I L 0 0 := by
  unfold fX12_plainNumber_b4w at hf
  refine j_iload_n hc dX12_plainNumber_4 rfl ?_
  refine j_iconst (v := (4 : Int32)) hc dX12_plainNumber_5 ci_4 ?_
  refine j_icmp_ge (tgt := 48) hc dX12_plainNumber_6 rfl hf (fun hf => ?_) (fun hf => ?_)
  · exact j_sub (tX12_plainNumber_b48 n d hc _ _ _ hf) (And.intro rfl (And.intro rfl (trivial)))
  · refine j_aload_n hc dX12_plainNumber_9 rfl ?_
    refine j_callVI (t := 0) (As := []) hc dX12_plainNumber_10 kw_1640 mX12_here kM_0 clX12 rfl (by omega) (Nat.le_of_ble_eq_true rfl) (Nat.le_of_ble_eq_true rfl) ⟨Nat.le_refl _, Nat.le_refl _⟩ hf (fun v I' L' h => qX12_here x.2.1 n d I L v I' L' h) (fun v1 I1 L1 hf => ?_)
    refine j_callSI (As := [.int v1]) hc dX12_plainNumber_13 kw_1664 mX12_isDigit  rfl (by omega) (Nat.le_of_ble_eq_true rfl) (Nat.le_of_ble_eq_true rfl) ⟨Nat.le_refl _, Nat.le_refl _⟩ hf (fun v I' L' h => qX12_isDigit x.2.1 n d v1 I1 L1 v I' L' h) (fun v2 I2 L2 hf => ?_)
    refine j_if_eq (tgt := 48) hc dX12_plainNumber_16 rfl hf (fun hf => ?_) (fun hf => ?_)
    · exact j_sub (tX12_plainNumber_b48 n d hc _ _ _ hf) (And.intro rfl (And.intro rfl (trivial)))
    · refine j_bipush (v := (10 : Int32)) hc dX12_plainNumber_19 cb_10 ?_
      refine j_iload_n hc dX12_plainNumber_21 rfl ?_
      refine j_imul hc dX12_plainNumber_22 ?_
      refine j_aload_n hc dX12_plainNumber_23 rfl ?_
      refine j_callVI (t := 0) (As := []) hc dX12_plainNumber_24 kw_1640 mX12_here kM_0 clX12 rfl (by omega) (Nat.le_of_ble_eq_true rfl) (Nat.le_of_ble_eq_true rfl) ⟨Nat.le_refl _, Nat.le_refl _⟩ hf (fun v I' L' h => qX12_here x.2.1 n d I2 L2 v I' L' h) (fun v3 I3 L3 hf => ?_)
      refine j_iadd hc dX12_plainNumber_27 ?_
      refine j_bipush (v := (48 : Int32)) hc dX12_plainNumber_28 cb_48 ?_
      refine j_isub hc dX12_plainNumber_30 ?_
      refine j_istore_n hc dX12_plainNumber_31 (Nat.le_of_ble_eq_true rfl) hf (fun v4 hf => ?_)
      refine j_aload_n hc dX12_plainNumber_32 rfl ?_
      refine j_dup hc dX12_plainNumber_33 rfl ?_
      refine j_getI hc dX12_plainNumber_34 fgM_X12_101_0 ?_
      refine j_iconst (v := (1 : Int32)) hc dX12_plainNumber_37 ci_1 ?_
      refine j_iadd hc dX12_plainNumber_38 ?_
      refine j_putI hc dX12_plainNumber_39 fpM_X12_101_0 rfl rfl hf (fun I5 hf => ?_)
      refine j_iinc (w := (1 : Int32)) hc dX12_plainNumber_42 rfl ci_1 (Nat.le_of_ble_eq_true rfl) hf (fun v6 hf => ?_)
      refine j_goto (tgt := 4) hc dX12_plainNumber_45 rfl ?_
      exact j_sub (hk4 _ _ _ _ hf) (And.intro rfl (And.intro rfl (And.intro rfl (trivial))))

def fX12_plainNumber_b4 (n d : Nat) : Nat → Int32 → Int32 → am_I → am_L → Option (Int32 × am_I × am_L)
  | 0 => fun _ _ _ _ => none
  | m + 1 => fX12_plainNumber_b4w n d  (fX12_plainNumber_b4 n d m)

set_option maxRecDepth 100000 in
theorem tX12_plainNumber_b4 {x : am_X} (n d : Nat) (hc : am_ok x cX12_plainNumber yX12_plainNumber 3 (some .int) (d + 2) 0 0) {r : Int32} {I' : am_I} {L' : am_L} (m : Nat) : ∀ (a1 : Int32) (a2 : Int32) (I : am_I) (L : am_L) (hf : fX12_plainNumber_b4 n d m a1 a2 I L = some (r, I', L')), am_J x (fun S => S = (some (.int r), KM, RM, I', L')) 4 [some (.ref 0), some (.int a1), some (.int a2)] [] KM RM I L 0 0 := by
  induction m with
  | zero => intro a1 a2 I L hf; exact (Option.some_ne_none _ hf.symm).elim
  | succ m ih => intro a1 a2 I L hf; exact tX12_plainNumber_b4w n d hc (fX12_plainNumber_b4 n d m) ih a1 a2 I L hf

set_option maxRecDepth 100000 in
def fX12_plainNumber (n d : Nat) (I : am_I) (L : am_L) : Option (Int32 × am_I × am_L) :=
  am_lt (0 : Int32) (fun v1 => am_lt (0 : Int32) (fun v2 => fX12_plainNumber_b4 n d n v1 v2 I L))

set_option maxRecDepth 100000 in
set_option maxHeartbeats 4000000 in
theorem tX12_plainNumber {x : am_X} (n d : Nat) (hc : am_ok x cX12_plainNumber yX12_plainNumber 3 (some .int) (d + 2) 0 0) {r : Int32} {I' : am_I} {L' : am_L} (I : am_I) (L : am_L) (hf : fX12_plainNumber n d I L = some (r, I', L')) : am_J x (fun S => S = (some (.int r), KM, RM, I', L')) 0 [some (.ref 0), none, none] [] KM RM I L 0 0 := by
  unfold fX12_plainNumber at hf
  refine j_iconst (v := (0 : Int32)) hc dX12_plainNumber_0 ci_0 ?_
  refine j_istore_n hc dX12_plainNumber_1 (Nat.le_of_ble_eq_true rfl) hf (fun v1 hf => ?_)
  refine j_iconst (v := (0 : Int32)) hc dX12_plainNumber_2 ci_0 ?_
  refine j_istore_n hc dX12_plainNumber_3 (Nat.le_of_ble_eq_true rfl) hf (fun v2 hf => ?_)
  exact j_sub (tX12_plainNumber_b4 n d hc n _ _ _ _ hf) (And.intro rfl (And.intro rfl (And.intro rfl (trivial))))

set_option maxRecDepth 100000 in
theorem qX12_plainNumber (l : Launch) (n d : Nat) (I : am_I) (L : am_L) (r : Int32) (I' : am_I) (L' : am_L) (hf : fX12_plainNumber n d I L = some (r, I', L')) : am_C l yX12_plainNumber cX12_plainNumber 3 (some .int) (d + 2) [.ref 0] KM RM I L (some (.int r)) I' L' := by
  exact am_intro (plainFor_of_name plX12) (fun _ _ => trivial) (Nat.le_of_ble_eq_true rfl) (fun x hl hc => by subst hl; exact j_sub (tX12_plainNumber n d hc  _ _ hf) (And.intro rfl (trivial)))
