set_option maxRecDepth 100000 in
def fX12_duelWith_b3w (n d : Nat) (k3 : Int32 → Int32 → Int32 → Int32 → am_I → am_L → Option (Int32 × am_I × am_L)) (a1 : Int32) (a2 : Int32) (a3 : Int32) (a4 : Int32) (I : am_I) (L : am_L) : Option (Int32 × am_I × am_L) :=
  if (88200 : Int32) ≤ a4 then
    (am_ck (((6 : Int32) * a1) + (2 : Int32)) 48 (am_lt (I 14 ((((6 : Int32) * a1) + (2 : Int32))).toNatClampNeg) (fun v1 => am_ck (0 : Int32) 2 (am_lt (am_up I 20 ((0 : Int32)).toNatClampNeg v1) (fun I2 => am_ck (((6 : Int32) * a2) + (2 : Int32)) 48 (am_lt (I2 14 ((((6 : Int32) * a2) + (2 : Int32))).toNatClampNeg) (fun v3 => am_ck (1 : Int32) 2 (am_lt (am_up I2 20 ((1 : Int32)).toNatClampNeg v3) (fun I4 => am_ck ((0 : Int32) + a1) 206 (am_lt (I4 17 (((0 : Int32) + a1)).toNatClampNeg) (fun v5 => am_ck ((8 : Int32) + a1) 206 (am_lt (I4 17 (((8 : Int32) + a1)).toNatClampNeg) (fun v6 => am_ck ((0 : Int32) + a2) 206 (am_lt (I4 17 (((0 : Int32) + a2)).toNatClampNeg) (fun v7 => am_ck ((8 : Int32) + a2) 206 (am_lt (I4 17 (((8 : Int32) + a2)).toNatClampNeg) (fun v8 => am_b3 (fX12_outcomeOf n d (0 : Int32) v5 (v6 - a3) v7 (v8 - a3) I4 L) (fun v9 I9 L9 => some (v9, I9, L9)))))))))))))))))))
    else
    (am_ck a4 88200 (am_lt (am_up I 19 (a4).toNatClampNeg (0 : Int32)) (fun I10 => am_lt (a4 + (1 : Int32)) (fun v11 => k3 a1 a2 a3 v11 I10 L))))

set_option maxRecDepth 100000 in
set_option maxHeartbeats 4000000 in
theorem tX12_duelWith_b3w {x : am_X} (n d : Nat) (hc : am_ok x cX12_duelWith yX12_duelWith 5 (some .int) (d + 3) 0 0) {r : Int32} {I' : am_I} {L' : am_L} (k3 : Int32 → Int32 → Int32 → Int32 → am_I → am_L → Option (Int32 × am_I × am_L)) (hk3 : ∀ (a1 : Int32) (a2 : Int32) (a3 : Int32) (a4 : Int32) (I : am_I) (L : am_L), k3 a1 a2 a3 a4 I L = some (r, I', L') → am_J x (fun S => S = (some (.int r), KM, RM, I', L')) 3 [some (.ref 0), some (.int a1), some (.int a2), some (.int a3), some (.int a4)] [] KM RM I L 0 0) (a1 : Int32) (a2 : Int32) (a3 : Int32) (a4 : Int32) (I : am_I) (L : am_L) (hf : fX12_duelWith_b3w n d k3 a1 a2 a3 a4 I L = some (r, I', L')) : am_J x (fun S => S = (some (.int r), KM, RM, I', L')) 3 [some (.ref 0), some (.int a1), some (.int a2), some (.int a3), some (.int a4)] [] KM RM I L 0 0 := by
  unfold fX12_duelWith_b3w at hf
  refine j_iload hc dX12_duelWith_3 rfl ?_
  refine j_aload_n hc dX12_duelWith_5 rfl ?_
  refine j_getR (u := 19) hc dX12_duelWith_6 fgM_X12_69_0 rM_0_32 ?_
  refine j_alen0 (v := (88200 : Int32)) hc dX12_duelWith_9 kM_19 cn_88200 ?_
  refine j_icmp_ge (tgt := 27) hc dX12_duelWith_10 rfl hf (fun hf => ?_) (fun hf => ?_)
  · refine j_aload_n hc dX12_duelWith_27 rfl ?_
    refine j_getR (u := 20) hc dX12_duelWith_28 fgM_X12_72_0 rM_0_33 ?_
    refine j_iconst (v := (0 : Int32)) hc dX12_duelWith_31 ci_0 ?_
    refine j_aload_n hc dX12_duelWith_32 rfl ?_
    refine j_getR (u := 14) hc dX12_duelWith_33 fgM_X12_49_0 rM_0_22 ?_
    refine j_bipush (v := (6 : Int32)) hc dX12_duelWith_36 cb_6 ?_
    refine j_iload_n hc dX12_duelWith_38 rfl ?_
    refine j_imul hc dX12_duelWith_39 ?_
    refine j_iconst (v := (2 : Int32)) hc dX12_duelWith_40 ci_2 ?_
    refine j_iadd hc dX12_duelWith_41 ?_
    refine j_iaload (n := 48) hc dX12_duelWith_42 kM_14 hf (fun v1 hf => ?_)
    refine j_iastore (n := 2) hc dX12_duelWith_43 kM_20 hf (fun I2 hf => ?_)
    refine j_aload_n hc dX12_duelWith_44 rfl ?_
    refine j_getR (u := 20) hc dX12_duelWith_45 fgM_X12_72_0 rM_0_33 ?_
    refine j_iconst (v := (1 : Int32)) hc dX12_duelWith_48 ci_1 ?_
    refine j_aload_n hc dX12_duelWith_49 rfl ?_
    refine j_getR (u := 14) hc dX12_duelWith_50 fgM_X12_49_0 rM_0_22 ?_
    refine j_bipush (v := (6 : Int32)) hc dX12_duelWith_53 cb_6 ?_
    refine j_iload_n hc dX12_duelWith_55 rfl ?_
    refine j_imul hc dX12_duelWith_56 ?_
    refine j_iconst (v := (2 : Int32)) hc dX12_duelWith_57 ci_2 ?_
    refine j_iadd hc dX12_duelWith_58 ?_
    refine j_iaload (n := 48) hc dX12_duelWith_59 kM_14 hf (fun v3 hf => ?_)
    refine j_iastore (n := 2) hc dX12_duelWith_60 kM_20 hf (fun I4 hf => ?_)
    refine j_aload_n hc dX12_duelWith_61 rfl ?_
    refine j_iconst (v := (0 : Int32)) hc dX12_duelWith_62 ci_0 ?_
    refine j_aload_n hc dX12_duelWith_63 rfl ?_
    refine j_getR (u := 17) hc dX12_duelWith_64 fgM_X12_58_0 rM_0_27 ?_
    refine j_iconst (v := (0 : Int32)) hc dX12_duelWith_67 ci_0 ?_
    refine j_iload_n hc dX12_duelWith_68 rfl ?_
    refine j_iadd hc dX12_duelWith_69 ?_
    refine j_iaload (n := 206) hc dX12_duelWith_70 kM_17 hf (fun v5 hf => ?_)
    refine j_aload_n hc dX12_duelWith_71 rfl ?_
    refine j_getR (u := 17) hc dX12_duelWith_72 fgM_X12_58_0 rM_0_27 ?_
    refine j_bipush (v := (8 : Int32)) hc dX12_duelWith_75 cb_8 ?_
    refine j_iload_n hc dX12_duelWith_77 rfl ?_
    refine j_iadd hc dX12_duelWith_78 ?_
    refine j_iaload (n := 206) hc dX12_duelWith_79 kM_17 hf (fun v6 hf => ?_)
    refine j_iload_n hc dX12_duelWith_80 rfl ?_
    refine j_isub hc dX12_duelWith_81 ?_
    refine j_aload_n hc dX12_duelWith_82 rfl ?_
    refine j_getR (u := 17) hc dX12_duelWith_83 fgM_X12_58_0 rM_0_27 ?_
    refine j_iconst (v := (0 : Int32)) hc dX12_duelWith_86 ci_0 ?_
    refine j_iload_n hc dX12_duelWith_87 rfl ?_
    refine j_iadd hc dX12_duelWith_88 ?_
    refine j_iaload (n := 206) hc dX12_duelWith_89 kM_17 hf (fun v7 hf => ?_)
    refine j_aload_n hc dX12_duelWith_90 rfl ?_
    refine j_getR (u := 17) hc dX12_duelWith_91 fgM_X12_58_0 rM_0_27 ?_
    refine j_bipush (v := (8 : Int32)) hc dX12_duelWith_94 cb_8 ?_
    refine j_iload_n hc dX12_duelWith_96 rfl ?_
    refine j_iadd hc dX12_duelWith_97 ?_
    refine j_iaload (n := 206) hc dX12_duelWith_98 kM_17 hf (fun v8 hf => ?_)
    refine j_iload_n hc dX12_duelWith_99 rfl ?_
    refine j_isub hc dX12_duelWith_100 ?_
    refine j_callVI (t := 0) (As := [.int (0 : Int32), .int v5, .int (v6 - a3), .int v7, .int (v8 - a3)]) hc dX12_duelWith_101 kw_1930 mX12_outcomeOf kM_0 clX12 rfl (by omega) (Nat.le_of_ble_eq_true rfl) (Nat.le_of_ble_eq_true rfl) ⟨Nat.le_refl _, Nat.le_refl _⟩ hf (fun v I' L' h => qX12_outcomeOf x.2.1 n d (0 : Int32) v5 (v6 - a3) v7 (v8 - a3) I4 L v I' L' h) (fun v9 I9 L9 hf => ?_)
    exact j_ireturn hc dX12_duelWith_104 rfl rfl hf
  · refine j_aload_n hc dX12_duelWith_13 rfl ?_
    refine j_getR (u := 19) hc dX12_duelWith_14 fgM_X12_69_0 rM_0_32 ?_
    refine j_iload hc dX12_duelWith_17 rfl ?_
    refine j_iconst (v := (0 : Int32)) hc dX12_duelWith_19 ci_0 ?_
    refine j_iastore (n := 88200) hc dX12_duelWith_20 kM_19 hf (fun I10 hf => ?_)
    refine j_iinc (w := (1 : Int32)) hc dX12_duelWith_21 rfl ci_1 (Nat.le_of_ble_eq_true rfl) hf (fun v11 hf => ?_)
    refine j_goto (tgt := 3) hc dX12_duelWith_24 rfl ?_
    exact j_sub (hk3 _ _ _ _ _ _ hf) (And.intro rfl (And.intro rfl (And.intro rfl (And.intro rfl (And.intro rfl (trivial))))))

def fX12_duelWith_b3 (n d : Nat) : Nat → Int32 → Int32 → Int32 → Int32 → am_I → am_L → Option (Int32 × am_I × am_L)
  | 0 => fun _ _ _ _ _ _ => none
  | m + 1 => fX12_duelWith_b3w n d  (fX12_duelWith_b3 n d m)

set_option maxRecDepth 100000 in
theorem tX12_duelWith_b3 {x : am_X} (n d : Nat) (hc : am_ok x cX12_duelWith yX12_duelWith 5 (some .int) (d + 3) 0 0) {r : Int32} {I' : am_I} {L' : am_L} (m : Nat) : ∀ (a1 : Int32) (a2 : Int32) (a3 : Int32) (a4 : Int32) (I : am_I) (L : am_L) (hf : fX12_duelWith_b3 n d m a1 a2 a3 a4 I L = some (r, I', L')), am_J x (fun S => S = (some (.int r), KM, RM, I', L')) 3 [some (.ref 0), some (.int a1), some (.int a2), some (.int a3), some (.int a4)] [] KM RM I L 0 0 := by
  induction m with
  | zero => intro a1 a2 a3 a4 I L hf; exact (Option.some_ne_none _ hf.symm).elim
  | succ m ih => intro a1 a2 a3 a4 I L hf; exact tX12_duelWith_b3w n d hc (fX12_duelWith_b3 n d m) ih a1 a2 a3 a4 I L hf

set_option maxRecDepth 100000 in
def fX12_duelWith (n d : Nat) (a1 : Int32) (a2 : Int32) (a3 : Int32) (I : am_I) (L : am_L) : Option (Int32 × am_I × am_L) :=
  am_lt (0 : Int32) (fun v1 => fX12_duelWith_b3 n d n a1 a2 a3 v1 I L)

set_option maxRecDepth 100000 in
set_option maxHeartbeats 4000000 in
theorem tX12_duelWith {x : am_X} (n d : Nat) (hc : am_ok x cX12_duelWith yX12_duelWith 5 (some .int) (d + 3) 0 0) {r : Int32} {I' : am_I} {L' : am_L} (a1 : Int32) (a2 : Int32) (a3 : Int32) (I : am_I) (L : am_L) (hf : fX12_duelWith n d a1 a2 a3 I L = some (r, I', L')) : am_J x (fun S => S = (some (.int r), KM, RM, I', L')) 0 [some (.ref 0), some (.int a1), some (.int a2), some (.int a3), none] [] KM RM I L 0 0 := by
  unfold fX12_duelWith at hf
  refine j_iconst (v := (0 : Int32)) hc dX12_duelWith_0 ci_0 ?_
  refine j_istore hc dX12_duelWith_1 (Nat.le_of_ble_eq_true rfl) hf (fun v1 hf => ?_)
  exact j_sub (tX12_duelWith_b3 n d hc n _ _ _ _ _ _ hf) (And.intro rfl (And.intro rfl (And.intro rfl (And.intro rfl (And.intro rfl (trivial))))))

set_option maxRecDepth 100000 in
theorem qX12_duelWith (l : Launch) (n d : Nat) (a1 : Int32) (a2 : Int32) (a3 : Int32) (I : am_I) (L : am_L) (r : Int32) (I' : am_I) (L' : am_L) (hf : fX12_duelWith n d a1 a2 a3 I L = some (r, I', L')) : am_C l yX12_duelWith cX12_duelWith 5 (some .int) (d + 3) [.ref 0, .int a1, .int a2, .int a3] KM RM I L (some (.int r)) I' L' := by
  exact am_intro (plainFor_of_name plX12) (fun _ _ => trivial) (Nat.le_of_ble_eq_true rfl) (fun x hl hc => by subst hl; exact j_sub (tX12_duelWith n d hc _ _ _ _ _ hf) (And.intro rfl (And.intro rfl (And.intro rfl (And.intro rfl (trivial))))))
set_option maxRecDepth 100000 in
def fX12_duel (n d : Nat) (a1 : Int32) (a2 : Int32) (a3 : Int32) (I : am_I) (L : am_L) : Option (Int32 × am_I × am_L) :=
  am_b3 (fX12_canDuel n d a1 a2 I L) (fun v1 I1 L1 => if v1 = 0 then
    (some ((-1 : Int32), I1, L1))
    else
    (am_b3 (fX12_in n d a3 (0 : Int32) (2 : Int32) I1 L1) (fun v2 I2 L2 => if v2 = 0 then
      (some ((-1 : Int32), I2, L2))
      else
      (am_b3 (fX12_duelWith n d a1 a2 (0 : Int32) I2 L2) (fun v3 I3 L3 => am_lt v3 (fun v4 => if a3 = 0 then
        (if v4 ≤ 0 then
          (some ((0 : Int32), I3, L3))
          else
          (some ((1 : Int32), I3, L3)))
        else
        (if a3 = (1 : Int32) then
          (am_b3 (fJ9_abs_0f7a4 n d v4 I3 L3) (fun v5 I5 L5 => some (v5, I5, L5)))
          else
          (some ((I3 0 34), I3, L3)))))))))

set_option maxRecDepth 100000 in
set_option maxHeartbeats 4000000 in
theorem tX12_duel {x : am_X} (n d : Nat) (hc : am_ok x cX12_duel yX12_duel 5 (some .int) (d + 4) 0 0) {r : Int32} {I' : am_I} {L' : am_L} (a1 : Int32) (a2 : Int32) (a3 : Int32) (I : am_I) (L : am_L) (hf : fX12_duel n d a1 a2 a3 I L = some (r, I', L')) : am_J x (fun S => S = (some (.int r), KM, RM, I', L')) 0 [some (.ref 0), some (.int a1), some (.int a2), some (.int a3), none] [] KM RM I L 0 0 := by
  unfold fX12_duel at hf
  refine j_aload_n hc dX12_duel_0 rfl ?_
  refine j_iload_n hc dX12_duel_1 rfl ?_
  refine j_iload_n hc dX12_duel_2 rfl ?_
  refine j_callVI (t := 0) (As := [.int a1, .int a2]) hc dX12_duel_3 kw_1922 mX12_canDuel kM_0 clX12 rfl (by omega) (Nat.le_of_ble_eq_true rfl) (Nat.le_of_ble_eq_true rfl) ⟨Nat.le_refl _, Nat.le_refl _⟩ hf (fun v I' L' h => qX12_canDuel x.2.1 n d a1 a2 I L v I' L' h) (fun v1 I1 L1 hf => ?_)
  refine j_if_eq (tgt := 18) hc dX12_duel_6 rfl hf (fun hf => ?_) (fun hf => ?_)
  · refine j_iconst (v := (-1 : Int32)) hc dX12_duel_18 ci_m1 ?_
    exact j_ireturn hc dX12_duel_19 rfl rfl hf
  · refine j_iload_n hc dX12_duel_9 rfl ?_
    refine j_iconst (v := (0 : Int32)) hc dX12_duel_10 ci_0 ?_
    refine j_iconst (v := (2 : Int32)) hc dX12_duel_11 ci_2 ?_
    refine j_callSI (As := [.int a3, .int (0 : Int32), .int (2 : Int32)]) hc dX12_duel_12 kw_1671 mX12_in  rfl (by omega) (Nat.le_of_ble_eq_true rfl) (Nat.le_of_ble_eq_true rfl) ⟨Nat.le_refl _, Nat.le_refl _⟩ hf (fun v I' L' h => qX12_in x.2.1 n d a3 (0 : Int32) (2 : Int32) I1 L1 v I' L' h) (fun v2 I2 L2 hf => ?_)
    refine j_if_ne (tgt := 20) hc dX12_duel_15 rfl hf (fun hf => ?_) (fun hf => ?_)
    · refine j_aload_n hc dX12_duel_20 rfl ?_
      refine j_iload_n hc dX12_duel_21 rfl ?_
      refine j_iload_n hc dX12_duel_22 rfl ?_
      refine j_iconst (v := (0 : Int32)) hc dX12_duel_23 ci_0 ?_
      refine j_callVI (t := 0) (As := [.int a1, .int a2, .int (0 : Int32)]) hc dX12_duel_24 kw_1926 mX12_duelWith kM_0 clX12 rfl (by omega) (Nat.le_of_ble_eq_true rfl) (Nat.le_of_ble_eq_true rfl) ⟨Nat.le_refl _, Nat.le_refl _⟩ hf (fun v I' L' h => qX12_duelWith x.2.1 n d a1 a2 (0 : Int32) I2 L2 v I' L' h) (fun v3 I3 L3 hf => ?_)
      refine j_istore hc dX12_duel_27 (Nat.le_of_ble_eq_true rfl) hf (fun v4 hf => ?_)
      refine j_iload_n hc dX12_duel_29 rfl ?_
      refine j_if_ne (tgt := 46) hc dX12_duel_30 rfl hf (fun hf => ?_) (fun hf => ?_)
      · refine j_iload_n hc dX12_duel_46 rfl ?_
        refine j_iconst (v := (1 : Int32)) hc dX12_duel_47 ci_1 ?_
        refine j_icmp_ne (tgt := 59) hc dX12_duel_48 rfl hf (fun hf => ?_) (fun hf => ?_)
        · refine j_aload_n hc dX12_duel_59 rfl ?_
          refine j_getI hc dX12_duel_60 fgM_X12_366_0 ?_
          exact j_ireturn hc dX12_duel_63 rfl rfl hf
        · refine j_iload hc dX12_duel_51 rfl ?_
          refine j_callSI (As := [.int v4]) hc dX12_duel_53 kw_1943 mJ9_abs_0f7a4  rfl (by omega) (Nat.le_of_ble_eq_true rfl) (Nat.le_of_ble_eq_true rfl) ⟨Nat.le_refl _, Nat.le_refl _⟩ hf (fun v I' L' h => qJ9_abs_0f7a4 x.2.1 n d v4 I3 L3 v I' L' h) (fun v5 I5 L5 hf => ?_)
          refine j_goto (tgt := 63) hc dX12_duel_56 rfl ?_
          exact j_ireturn hc dX12_duel_63 rfl rfl hf
      · refine j_iload hc dX12_duel_33 rfl ?_
        refine j_if_le (tgt := 42) hc dX12_duel_35 rfl hf (fun hf => ?_) (fun hf => ?_)
        · refine j_iconst (v := (0 : Int32)) hc dX12_duel_42 ci_0 ?_
          refine j_goto (tgt := 63) hc dX12_duel_43 rfl ?_
          exact j_ireturn hc dX12_duel_63 rfl rfl hf
        · refine j_iconst (v := (1 : Int32)) hc dX12_duel_38 ci_1 ?_
          refine j_goto (tgt := 63) hc dX12_duel_39 rfl ?_
          exact j_ireturn hc dX12_duel_63 rfl rfl hf
    · refine j_iconst (v := (-1 : Int32)) hc dX12_duel_18 ci_m1 ?_
      exact j_ireturn hc dX12_duel_19 rfl rfl hf

set_option maxRecDepth 100000 in
theorem qX12_duel (l : Launch) (n d : Nat) (a1 : Int32) (a2 : Int32) (a3 : Int32) (I : am_I) (L : am_L) (r : Int32) (I' : am_I) (L' : am_L) (hf : fX12_duel n d a1 a2 a3 I L = some (r, I', L')) : am_C l yX12_duel cX12_duel 5 (some .int) (d + 4) [.ref 0, .int a1, .int a2, .int a3] KM RM I L (some (.int r)) I' L' := by
  exact am_intro (plainFor_of_name plX12) (fun _ _ => trivial) (Nat.le_of_ble_eq_true rfl) (fun x hl hc => by subst hl; exact j_sub (tX12_duel n d hc _ _ _ _ _ hf) (And.intro rfl (And.intro rfl (And.intro rfl (And.intro rfl (trivial))))))
set_option maxRecDepth 100000 in
def fX12_isSide (n d : Nat) (a1 : Int32) (I : am_I) (L : am_L) : Option (Int32 × am_I × am_L) :=
  if (I 0 25) ≤ 0 then
    (some ((0 : Int32), I, L))
    else
    (am_b3 (fX12_in n d a1 (0 : Int32) (1 : Int32) I L) (fun v1 I1 L1 => if v1 = 0 then
      (some ((0 : Int32), I1, L1))
      else
      (some ((1 : Int32), I1, L1))))

set_option maxRecDepth 100000 in
set_option maxHeartbeats 4000000 in
theorem tX12_isSide {x : am_X} (n d : Nat) (hc : am_ok x cX12_isSide yX12_isSide 2 (some .boolean) (d + 2) 0 0) {r : Int32} {I' : am_I} {L' : am_L} (a1 : Int32) (I : am_I) (L : am_L) (hf : fX12_isSide n d a1 I L = some (r, I', L')) : am_J x (fun S => S = (some (.int r), KM, RM, I', L')) 0 [some (.ref 0), some (.int a1)] [] KM RM I L 0 0 := by
  unfold fX12_isSide at hf
  refine j_aload_n hc dX12_isSide_0 rfl ?_
  refine j_getI hc dX12_isSide_1 fgM_X12_250_0 ?_
  refine j_if_le (tgt := 20) hc dX12_isSide_4 rfl hf (fun hf => ?_) (fun hf => ?_)
  · refine j_iconst (v := (0 : Int32)) hc dX12_isSide_20 ci_0 ?_
    exact j_zret hc dX12_isSide_21 rfl rfl (Or.inl rfl) hf
  · refine j_iload_n hc dX12_isSide_7 rfl ?_
    refine j_iconst (v := (0 : Int32)) hc dX12_isSide_8 ci_0 ?_
    refine j_iconst (v := (1 : Int32)) hc dX12_isSide_9 ci_1 ?_
    refine j_callSI (As := [.int a1, .int (0 : Int32), .int (1 : Int32)]) hc dX12_isSide_10 kw_1671 mX12_in  rfl (by omega) (Nat.le_of_ble_eq_true rfl) (Nat.le_of_ble_eq_true rfl) ⟨Nat.le_refl _, Nat.le_refl _⟩ hf (fun v I' L' h => qX12_in x.2.1 n d a1 (0 : Int32) (1 : Int32) I L v I' L' h) (fun v1 I1 L1 hf => ?_)
    refine j_if_eq (tgt := 20) hc dX12_isSide_13 rfl hf (fun hf => ?_) (fun hf => ?_)
    · refine j_iconst (v := (0 : Int32)) hc dX12_isSide_20 ci_0 ?_
      exact j_zret hc dX12_isSide_21 rfl rfl (Or.inl rfl) hf
    · refine j_iconst (v := (1 : Int32)) hc dX12_isSide_16 ci_1 ?_
      refine j_goto (tgt := 21) hc dX12_isSide_17 rfl ?_
      exact j_zret hc dX12_isSide_21 rfl rfl (Or.inr rfl) hf

set_option maxRecDepth 100000 in
theorem qX12_isSide (l : Launch) (n d : Nat) (a1 : Int32) (I : am_I) (L : am_L) (r : Int32) (I' : am_I) (L' : am_L) (hf : fX12_isSide n d a1 I L = some (r, I', L')) : am_C l yX12_isSide cX12_isSide 2 (some .boolean) (d + 2) [.ref 0, .int a1] KM RM I L (some (.int r)) I' L' := by
  exact am_intro (plainFor_of_name plX12) (fun _ _ => trivial) (Nat.le_of_ble_eq_true rfl) (fun x hl hc => by subst hl; exact j_sub (tX12_isSide n d hc _ _ _ hf) (And.intro rfl (And.intro rfl (trivial))))
set_option maxRecDepth 100000 in
def fX12_wins_b50 (n d : Nat) (k4 : Int32 → Int32 → Int32 → am_I → am_L → Option (Int32 × am_I × am_L)) (s0 : Int32) (s1 : Int32) (a1 : Int32) (a3 : Int32) (I : am_I) (L : am_L) : Option (Int32 × am_I × am_L) :=
  am_lt (s0 + s1) (fun v1 => am_lt (a3 + (1 : Int32)) (fun v2 => k4 a1 v1 v2 I L))

set_option maxRecDepth 100000 in
set_option maxHeartbeats 4000000 in
theorem tX12_wins_b50 {x : am_X} (n d : Nat) (hc : am_ok x cX12_wins yX12_wins 4 (some .int) (d + 4) 0 0) {r : Int32} {I' : am_I} {L' : am_L} (k4 : Int32 → Int32 → Int32 → am_I → am_L → Option (Int32 × am_I × am_L)) (hk4 : ∀ (a1 : Int32) (a2 : Int32) (a3 : Int32) (I : am_I) (L : am_L), k4 a1 a2 a3 I L = some (r, I', L') → am_J x (fun S => S = (some (.int r), KM, RM, I', L')) 4 [some (.ref 0), some (.int a1), some (.int a2), some (.int a3)] [] KM RM I L 0 0) (s0 : Int32) (s1 : Int32) (a1 : Int32) (a3 : Int32) (I : am_I) (L : am_L) (hf : fX12_wins_b50 n d k4 s0 s1 a1 a3 I L = some (r, I', L')) : am_J x (fun S => S = (some (.int r), KM, RM, I', L')) 50 [some (.ref 0), some (.int a1), none, some (.int a3)] [.int s1, .int s0] KM RM I L 0 0 := by
  unfold fX12_wins_b50 at hf
  refine j_iadd hc dX12_wins_50 ?_
  refine j_istore_n hc dX12_wins_51 (Nat.le_of_ble_eq_true rfl) hf (fun v1 hf => ?_)
  refine j_iinc (w := (1 : Int32)) hc dX12_wins_52 rfl ci_1 (Nat.le_of_ble_eq_true rfl) hf (fun v2 hf => ?_)
  refine j_goto (tgt := 4) hc dX12_wins_55 rfl ?_
  exact j_sub (hk4 _ _ _ _ _ hf) (And.intro rfl (And.intro rfl (And.intro rfl (And.intro rfl (trivial)))))

set_option maxRecDepth 100000 in
def fX12_wins_b49 (n d : Nat) (k4 : Int32 → Int32 → Int32 → am_I → am_L → Option (Int32 × am_I × am_L)) (s0 : Int32) (a1 : Int32) (a3 : Int32) (I : am_I) (L : am_L) : Option (Int32 × am_I × am_L) :=
  fX12_wins_b50 n d k4 s0 (0 : Int32) a1 a3 I L

set_option maxRecDepth 100000 in
set_option maxHeartbeats 4000000 in
theorem tX12_wins_b49 {x : am_X} (n d : Nat) (hc : am_ok x cX12_wins yX12_wins 4 (some .int) (d + 4) 0 0) {r : Int32} {I' : am_I} {L' : am_L} (k4 : Int32 → Int32 → Int32 → am_I → am_L → Option (Int32 × am_I × am_L)) (hk4 : ∀ (a1 : Int32) (a2 : Int32) (a3 : Int32) (I : am_I) (L : am_L), k4 a1 a2 a3 I L = some (r, I', L') → am_J x (fun S => S = (some (.int r), KM, RM, I', L')) 4 [some (.ref 0), some (.int a1), some (.int a2), some (.int a3)] [] KM RM I L 0 0) (s0 : Int32) (a1 : Int32) (a3 : Int32) (I : am_I) (L : am_L) (hf : fX12_wins_b49 n d k4 s0 a1 a3 I L = some (r, I', L')) : am_J x (fun S => S = (some (.int r), KM, RM, I', L')) 49 [some (.ref 0), some (.int a1), none, some (.int a3)] [.int s0] KM RM I L 0 0 := by
  unfold fX12_wins_b49 at hf
  refine j_iconst (v := (0 : Int32)) hc dX12_wins_49 ci_0 ?_
  exact j_sub (tX12_wins_b50 n d hc k4 hk4 _ _ _ _ _ _ hf) (And.intro rfl (And.intro rfl (And.intro rfl (trivial))))

set_option maxRecDepth 100000 in
def fX12_wins_b4w (n d : Nat) (k4 : Int32 → Int32 → Int32 → am_I → am_L → Option (Int32 × am_I × am_L)) (a1 : Int32) (a2 : Int32) (a3 : Int32) (I : am_I) (L : am_L) : Option (Int32 × am_I × am_L) :=
  if (I 0 25) ≤ a3 then
    (some (a2, I, L))
    else
    (am_b3 (fX12_side n d a3 I L) (fun v1 I1 L1 => am_b3 (fX12_side n d a1 I1 L1) (fun v2 I2 L2 => if v1 = v2 then
      (fX12_wins_b49 n d k4 a2 a1 a3 I2 L2)
      else
      (am_b3 (fX12_canDuel n d a1 a3 I2 L2) (fun v3 I3 L3 => if v3 = 0 then
        (fX12_wins_b49 n d k4 a2 a1 a3 I3 L3)
        else
        (am_b3 (fX12_duelWith n d a1 a3 (0 : Int32) I3 L3) (fun v4 I4 L4 => if v4 ≤ 0 then
          (fX12_wins_b49 n d k4 a2 a1 a3 I4 L4)
          else
          (fX12_wins_b50 n d k4 a2 (1 : Int32) a1 a3 I4 L4))))))))

set_option maxRecDepth 100000 in
set_option maxHeartbeats 4000000 in
theorem tX12_wins_b4w {x : am_X} (n d : Nat) (hc : am_ok x cX12_wins yX12_wins 4 (some .int) (d + 4) 0 0) {r : Int32} {I' : am_I} {L' : am_L} (k4 : Int32 → Int32 → Int32 → am_I → am_L → Option (Int32 × am_I × am_L)) (hk4 : ∀ (a1 : Int32) (a2 : Int32) (a3 : Int32) (I : am_I) (L : am_L), k4 a1 a2 a3 I L = some (r, I', L') → am_J x (fun S => S = (some (.int r), KM, RM, I', L')) 4 [some (.ref 0), some (.int a1), some (.int a2), some (.int a3)] [] KM RM I L 0 0) (a1 : Int32) (a2 : Int32) (a3 : Int32) (I : am_I) (L : am_L) (hf : fX12_wins_b4w n d k4 a1 a2 a3 I L = some (r, I', L')) : am_J x (fun S => S = (some (.int r), KM, RM, I', L')) 4 [some (.ref 0), some (.int a1), some (.int a2), some (.int a3)] [] KM RM I L 0 0 := by
  unfold fX12_wins_b4w at hf
  refine j_iload_n hc dX12_wins_4 rfl ?_
  refine j_aload_n hc dX12_wins_5 rfl ?_
  refine j_getI hc dX12_wins_6 fgM_X12_250_0 ?_
  refine j_icmp_ge (tgt := 58) hc dX12_wins_9 rfl hf (fun hf => ?_) (fun hf => ?_)
  · refine j_iload_n hc dX12_wins_58 rfl ?_
    exact j_ireturn hc dX12_wins_59 rfl rfl hf
  · refine j_iload_n hc dX12_wins_12 rfl ?_
    refine j_aload_n hc dX12_wins_13 rfl ?_
    refine j_iload_n hc dX12_wins_14 rfl ?_
    refine j_callVI (t := 0) (As := [.int a3]) hc dX12_wins_15 kw_1780 mX12_side kM_0 clX12 rfl (by omega) (Nat.le_of_ble_eq_true rfl) (Nat.le_of_ble_eq_true rfl) ⟨Nat.le_refl _, Nat.le_refl _⟩ hf (fun v I' L' h => qX12_side x.2.1 n d a3 I L v I' L' h) (fun v1 I1 L1 hf => ?_)
    refine j_aload_n hc dX12_wins_18 rfl ?_
    refine j_iload_n hc dX12_wins_19 rfl ?_
    refine j_callVI (t := 0) (As := [.int a1]) hc dX12_wins_20 kw_1780 mX12_side kM_0 clX12 rfl (by omega) (Nat.le_of_ble_eq_true rfl) (Nat.le_of_ble_eq_true rfl) ⟨Nat.le_refl _, Nat.le_refl _⟩ hf (fun v I' L' h => qX12_side x.2.1 n d a1 I1 L1 v I' L' h) (fun v2 I2 L2 hf => ?_)
    refine j_icmp_eq (tgt := 49) hc dX12_wins_23 rfl hf (fun hf => ?_) (fun hf => ?_)
    · exact j_sub (tX12_wins_b49 n d hc k4 hk4 _ _ _ _ _ hf) (And.intro rfl (And.intro rfl (And.intro rfl (trivial))))
    · refine j_aload_n hc dX12_wins_26 rfl ?_
      refine j_iload_n hc dX12_wins_27 rfl ?_
      refine j_iload_n hc dX12_wins_28 rfl ?_
      refine j_callVI (t := 0) (As := [.int a1, .int a3]) hc dX12_wins_29 kw_1922 mX12_canDuel kM_0 clX12 rfl (by omega) (Nat.le_of_ble_eq_true rfl) (Nat.le_of_ble_eq_true rfl) ⟨Nat.le_refl _, Nat.le_refl _⟩ hf (fun v I' L' h => qX12_canDuel x.2.1 n d a1 a3 I2 L2 v I' L' h) (fun v3 I3 L3 hf => ?_)
      refine j_if_eq (tgt := 49) hc dX12_wins_32 rfl hf (fun hf => ?_) (fun hf => ?_)
      · exact j_sub (tX12_wins_b49 n d hc k4 hk4 _ _ _ _ _ hf) (And.intro rfl (And.intro rfl (And.intro rfl (trivial))))
      · refine j_aload_n hc dX12_wins_35 rfl ?_
        refine j_iload_n hc dX12_wins_36 rfl ?_
        refine j_iload_n hc dX12_wins_37 rfl ?_
        refine j_iconst (v := (0 : Int32)) hc dX12_wins_38 ci_0 ?_
        refine j_callVI (t := 0) (As := [.int a1, .int a3, .int (0 : Int32)]) hc dX12_wins_39 kw_1926 mX12_duelWith kM_0 clX12 rfl (by omega) (Nat.le_of_ble_eq_true rfl) (Nat.le_of_ble_eq_true rfl) ⟨Nat.le_refl _, Nat.le_refl _⟩ hf (fun v I' L' h => qX12_duelWith x.2.1 n d a1 a3 (0 : Int32) I3 L3 v I' L' h) (fun v4 I4 L4 hf => ?_)
        refine j_if_le (tgt := 49) hc dX12_wins_42 rfl hf (fun hf => ?_) (fun hf => ?_)
        · exact j_sub (tX12_wins_b49 n d hc k4 hk4 _ _ _ _ _ hf) (And.intro rfl (And.intro rfl (And.intro rfl (trivial))))
        · refine j_iconst (v := (1 : Int32)) hc dX12_wins_45 ci_1 ?_
          refine j_goto (tgt := 50) hc dX12_wins_46 rfl ?_
          exact j_sub (tX12_wins_b50 n d hc k4 hk4 _ _ _ _ _ _ hf) (And.intro rfl (And.intro rfl (And.intro rfl (trivial))))

def fX12_wins_b4 (n d : Nat) : Nat → Int32 → Int32 → Int32 → am_I → am_L → Option (Int32 × am_I × am_L)
  | 0 => fun _ _ _ _ _ => none
  | m + 1 => fX12_wins_b4w n d  (fX12_wins_b4 n d m)

set_option maxRecDepth 100000 in
theorem tX12_wins_b4 {x : am_X} (n d : Nat) (hc : am_ok x cX12_wins yX12_wins 4 (some .int) (d + 4) 0 0) {r : Int32} {I' : am_I} {L' : am_L} (m : Nat) : ∀ (a1 : Int32) (a2 : Int32) (a3 : Int32) (I : am_I) (L : am_L) (hf : fX12_wins_b4 n d m a1 a2 a3 I L = some (r, I', L')), am_J x (fun S => S = (some (.int r), KM, RM, I', L')) 4 [some (.ref 0), some (.int a1), some (.int a2), some (.int a3)] [] KM RM I L 0 0 := by
  induction m with
  | zero => intro a1 a2 a3 I L hf; exact (Option.some_ne_none _ hf.symm).elim
  | succ m ih => intro a1 a2 a3 I L hf; exact tX12_wins_b4w n d hc (fX12_wins_b4 n d m) ih a1 a2 a3 I L hf

set_option maxRecDepth 100000 in
def fX12_wins (n d : Nat) (a1 : Int32) (I : am_I) (L : am_L) : Option (Int32 × am_I × am_L) :=
  am_lt (0 : Int32) (fun v1 => am_lt (0 : Int32) (fun v2 => fX12_wins_b4 n d n a1 v1 v2 I L))

set_option maxRecDepth 100000 in
set_option maxHeartbeats 4000000 in
theorem tX12_wins {x : am_X} (n d : Nat) (hc : am_ok x cX12_wins yX12_wins 4 (some .int) (d + 4) 0 0) {r : Int32} {I' : am_I} {L' : am_L} (a1 : Int32) (I : am_I) (L : am_L) (hf : fX12_wins n d a1 I L = some (r, I', L')) : am_J x (fun S => S = (some (.int r), KM, RM, I', L')) 0 [some (.ref 0), some (.int a1), none, none] [] KM RM I L 0 0 := by
  unfold fX12_wins at hf
  refine j_iconst (v := (0 : Int32)) hc dX12_wins_0 ci_0 ?_
  refine j_istore_n hc dX12_wins_1 (Nat.le_of_ble_eq_true rfl) hf (fun v1 hf => ?_)
  refine j_iconst (v := (0 : Int32)) hc dX12_wins_2 ci_0 ?_
  refine j_istore_n hc dX12_wins_3 (Nat.le_of_ble_eq_true rfl) hf (fun v2 hf => ?_)
  exact j_sub (tX12_wins_b4 n d hc n _ _ _ _ _ hf) (And.intro rfl (And.intro rfl (And.intro rfl (And.intro rfl (trivial)))))

set_option maxRecDepth 100000 in
theorem qX12_wins (l : Launch) (n d : Nat) (a1 : Int32) (I : am_I) (L : am_L) (r : Int32) (I' : am_I) (L' : am_L) (hf : fX12_wins n d a1 I L = some (r, I', L')) : am_C l yX12_wins cX12_wins 4 (some .int) (d + 4) [.ref 0, .int a1] KM RM I L (some (.int r)) I' L' := by
  exact am_intro (plainFor_of_name plX12) (fun _ _ => trivial) (Nat.le_of_ble_eq_true rfl) (fun x hl hc => by subst hl; exact j_sub (tX12_wins n d hc _ _ _ hf) (And.intro rfl (And.intro rfl (trivial))))
set_option maxRecDepth 100000 in
def fX12_champion_b70 (n d : Nat) (k7 : Int32 → Int32 → Int32 → Int32 → am_I → am_L → Option (Int32 × am_I × am_L)) (s0 : Int32) (a1 : Int32) (a3 : Int32) (a4 : Int32) (a5 : Int32) (I : am_I) (L : am_L) : Option (Int32 × am_I × am_L) :=
  am_lt s0 (fun v1 => am_b3 (fJ9_max_7cf53 n d a3 a5 I L) (fun v2 I2 L2 => am_lt v2 (fun v3 => am_lt (a4 + (1 : Int32)) (fun v4 => k7 a1 v1 v3 v4 I2 L2))))

set_option maxRecDepth 100000 in
set_option maxHeartbeats 4000000 in
theorem tX12_champion_b70 {x : am_X} (n d : Nat) (hc : am_ok x cX12_champion yX12_champion 6 (some .int) (d + 5) 0 0) {r : Int32} {I' : am_I} {L' : am_L} (k7 : Int32 → Int32 → Int32 → Int32 → am_I → am_L → Option (Int32 × am_I × am_L)) (hk7 : ∀ (a1 : Int32) (a2 : Int32) (a3 : Int32) (a4 : Int32) (I : am_I) (L : am_L), k7 a1 a2 a3 a4 I L = some (r, I', L') → am_J x (fun S => S = (some (.int r), KM, RM, I', L')) 7 [some (.ref 0), some (.int a1), some (.int a2), some (.int a3), some (.int a4), none] [] KM RM I L 0 0) (s0 : Int32) (a1 : Int32) (a3 : Int32) (a4 : Int32) (a5 : Int32) (I : am_I) (L : am_L) (hf : fX12_champion_b70 n d k7 s0 a1 a3 a4 a5 I L = some (r, I', L')) : am_J x (fun S => S = (some (.int r), KM, RM, I', L')) 70 [some (.ref 0), some (.int a1), none, some (.int a3), some (.int a4), some (.int a5)] [.int s0] KM RM I L 0 0 := by
  unfold fX12_champion_b70 at hf
  refine j_istore_n hc dX12_champion_70 (Nat.le_of_ble_eq_true rfl) hf (fun v1 hf => ?_)
  refine j_iload_n hc dX12_champion_71 rfl ?_
  refine j_iload hc dX12_champion_72 rfl ?_
  refine j_callSI (As := [.int a3, .int a5]) hc dX12_champion_74 kw_1882 mJ9_max_7cf53  rfl (by omega) (Nat.le_of_ble_eq_true rfl) (Nat.le_of_ble_eq_true rfl) ⟨Nat.le_refl _, Nat.le_refl _⟩ hf (fun v I' L' h => qJ9_max_7cf53 x.2.1 n d a3 a5 I L v I' L' h) (fun v2 I2 L2 hf => ?_)
  refine j_istore_n hc dX12_champion_77 (Nat.le_of_ble_eq_true rfl) hf (fun v3 hf => ?_)
  refine j_iinc (w := (1 : Int32)) hc dX12_champion_78 rfl ci_1 (Nat.le_of_ble_eq_true rfl) hf (fun v4 hf => ?_)
  refine j_goto (tgt := 7) hc dX12_champion_81 rfl ?_
  exact j_sub (hk7 _ _ _ _ _ _ hf) (And.intro rfl (And.intro rfl (And.intro rfl (And.intro rfl (And.intro rfl (trivial))))))

set_option maxRecDepth 100000 in
def fX12_champion_b56 (n d : Nat) (k7 : Int32 → Int32 → Int32 → Int32 → am_I → am_L → Option (Int32 × am_I × am_L)) (s0 : Int32) (a1 : Int32) (a2 : Int32) (a3 : Int32) (a4 : Int32) (I : am_I) (L : am_L) : Option (Int32 × am_I × am_L) :=
  am_lt s0 (fun v1 => if v1 ≤ a3 then
    (fX12_champion_b70 n d k7 a2 a1 a3 a4 v1 I L)
    else
    (fX12_champion_b70 n d k7 a4 a1 a3 a4 v1 I L))

set_option maxRecDepth 100000 in
set_option maxHeartbeats 4000000 in
theorem tX12_champion_b56 {x : am_X} (n d : Nat) (hc : am_ok x cX12_champion yX12_champion 6 (some .int) (d + 5) 0 0) {r : Int32} {I' : am_I} {L' : am_L} (k7 : Int32 → Int32 → Int32 → Int32 → am_I → am_L → Option (Int32 × am_I × am_L)) (hk7 : ∀ (a1 : Int32) (a2 : Int32) (a3 : Int32) (a4 : Int32) (I : am_I) (L : am_L), k7 a1 a2 a3 a4 I L = some (r, I', L') → am_J x (fun S => S = (some (.int r), KM, RM, I', L')) 7 [some (.ref 0), some (.int a1), some (.int a2), some (.int a3), some (.int a4), none] [] KM RM I L 0 0) (s0 : Int32) (a1 : Int32) (a2 : Int32) (a3 : Int32) (a4 : Int32) (I : am_I) (L : am_L) (hf : fX12_champion_b56 n d k7 s0 a1 a2 a3 a4 I L = some (r, I', L')) : am_J x (fun S => S = (some (.int r), KM, RM, I', L')) 56 [some (.ref 0), some (.int a1), some (.int a2), some (.int a3), some (.int a4), none] [.int s0] KM RM I L 0 0 := by
  unfold fX12_champion_b56 at hf
  refine j_istore hc dX12_champion_56 (Nat.le_of_ble_eq_true rfl) hf (fun v1 hf => ?_)
  refine j_iload hc dX12_champion_58 rfl ?_
  refine j_iload_n hc dX12_champion_60 rfl ?_
  refine j_icmp_le (tgt := 69) hc dX12_champion_61 rfl hf (fun hf => ?_) (fun hf => ?_)
  · refine j_iload_n hc dX12_champion_69 rfl ?_
    exact j_sub (tX12_champion_b70 n d hc k7 hk7 _ _ _ _ _ _ _ hf) (And.intro rfl (And.intro rfl (And.intro rfl (And.intro rfl (And.intro rfl (trivial))))))
  · refine j_iload hc dX12_champion_64 rfl ?_
    refine j_goto (tgt := 70) hc dX12_champion_66 rfl ?_
    exact j_sub (tX12_champion_b70 n d hc k7 hk7 _ _ _ _ _ _ _ hf) (And.intro rfl (And.intro rfl (And.intro rfl (And.intro rfl (And.intro rfl (trivial))))))

set_option maxRecDepth 100000 in
def fX12_champion_b55 (n d : Nat) (k7 : Int32 → Int32 → Int32 → Int32 → am_I → am_L → Option (Int32 × am_I × am_L)) (a1 : Int32) (a2 : Int32) (a3 : Int32) (a4 : Int32) (I : am_I) (L : am_L) : Option (Int32 × am_I × am_L) :=
  fX12_champion_b56 n d k7 (-1 : Int32) a1 a2 a3 a4 I L

set_option maxRecDepth 100000 in
set_option maxHeartbeats 4000000 in
theorem tX12_champion_b55 {x : am_X} (n d : Nat) (hc : am_ok x cX12_champion yX12_champion 6 (some .int) (d + 5) 0 0) {r : Int32} {I' : am_I} {L' : am_L} (k7 : Int32 → Int32 → Int32 → Int32 → am_I → am_L → Option (Int32 × am_I × am_L)) (hk7 : ∀ (a1 : Int32) (a2 : Int32) (a3 : Int32) (a4 : Int32) (I : am_I) (L : am_L), k7 a1 a2 a3 a4 I L = some (r, I', L') → am_J x (fun S => S = (some (.int r), KM, RM, I', L')) 7 [some (.ref 0), some (.int a1), some (.int a2), some (.int a3), some (.int a4), none] [] KM RM I L 0 0) (a1 : Int32) (a2 : Int32) (a3 : Int32) (a4 : Int32) (I : am_I) (L : am_L) (hf : fX12_champion_b55 n d k7 a1 a2 a3 a4 I L = some (r, I', L')) : am_J x (fun S => S = (some (.int r), KM, RM, I', L')) 55 [some (.ref 0), some (.int a1), some (.int a2), some (.int a3), some (.int a4), none] [] KM RM I L 0 0 := by
  unfold fX12_champion_b55 at hf
  refine j_iconst (v := (-1 : Int32)) hc dX12_champion_55 ci_m1 ?_
  exact j_sub (tX12_champion_b56 n d hc k7 hk7 _ _ _ _ _ _ _ hf) (And.intro rfl (And.intro rfl (And.intro rfl (And.intro rfl (And.intro rfl (trivial))))))

set_option maxRecDepth 100000 in
def fX12_champion_b7w (n d : Nat) (k7 : Int32 → Int32 → Int32 → Int32 → am_I → am_L → Option (Int32 × am_I × am_L)) (a1 : Int32) (a2 : Int32) (a3 : Int32) (a4 : Int32) (I : am_I) (L : am_L) : Option (Int32 × am_I × am_L) :=
  am_b3 (fX12_isSide n d a1 I L) (fun v1 I1 L1 => if v1 = 0 then
    (some (a2, I1, L1))
    else
    (if (I1 0 25) ≤ a4 then
      (some (a2, I1, L1))
      else
      (am_b3 (fX12_side n d a4 I1 L1) (fun v2 I2 L2 => if v2 = a1 then
        (am_ck ((0 : Int32) + a4) 206 (am_lt (I2 17 (((0 : Int32) + a4)).toNatClampNeg) (fun v3 => if v3 ≤ 0 then
          (fX12_champion_b55 n d k7 a1 a2 a3 a4 I2 L2)
          else
          (am_b3 (fX12_wins n d a4 I2 L2) (fun v4 I4 L4 => fX12_champion_b56 n d k7 v4 a1 a2 a3 a4 I4 L4)))))
        else
        (fX12_champion_b55 n d k7 a1 a2 a3 a4 I2 L2)))))

set_option maxRecDepth 100000 in
set_option maxHeartbeats 4000000 in
theorem tX12_champion_b7w {x : am_X} (n d : Nat) (hc : am_ok x cX12_champion yX12_champion 6 (some .int) (d + 5) 0 0) {r : Int32} {I' : am_I} {L' : am_L} (k7 : Int32 → Int32 → Int32 → Int32 → am_I → am_L → Option (Int32 × am_I × am_L)) (hk7 : ∀ (a1 : Int32) (a2 : Int32) (a3 : Int32) (a4 : Int32) (I : am_I) (L : am_L), k7 a1 a2 a3 a4 I L = some (r, I', L') → am_J x (fun S => S = (some (.int r), KM, RM, I', L')) 7 [some (.ref 0), some (.int a1), some (.int a2), some (.int a3), some (.int a4), none] [] KM RM I L 0 0) (a1 : Int32) (a2 : Int32) (a3 : Int32) (a4 : Int32) (I : am_I) (L : am_L) (hf : fX12_champion_b7w n d k7 a1 a2 a3 a4 I L = some (r, I', L')) : am_J x (fun S => S = (some (.int r), KM, RM, I', L')) 7 [some (.ref 0), some (.int a1), some (.int a2), some (.int a3), some (.int a4), none] [] KM RM I L 0 0 := by
  unfold fX12_champion_b7w at hf
  refine j_aload_n hc dX12_champion_7 rfl ?_
  refine j_iload_n hc dX12_champion_8 rfl ?_
  refine j_callVI (t := 0) (As := [.int a1]) hc dX12_champion_9 kw_1948 mX12_isSide kM_0 clX12 rfl (by omega) (Nat.le_of_ble_eq_true rfl) (Nat.le_of_ble_eq_true rfl) ⟨Nat.le_refl _, Nat.le_refl _⟩ hf (fun v I' L' h => qX12_isSide x.2.1 n d a1 I L v I' L' h) (fun v1 I1 L1 hf => ?_)
  refine j_if_eq (tgt := 84) hc dX12_champion_12 rfl hf (fun hf => ?_) (fun hf => ?_)
  · refine j_iload_n hc dX12_champion_84 rfl ?_
    exact j_ireturn hc dX12_champion_85 rfl rfl hf
  · refine j_iload hc dX12_champion_15 rfl ?_
    refine j_aload_n hc dX12_champion_17 rfl ?_
    refine j_getI hc dX12_champion_18 fgM_X12_250_0 ?_
    refine j_icmp_ge (tgt := 84) hc dX12_champion_21 rfl hf (fun hf => ?_) (fun hf => ?_)
    · refine j_iload_n hc dX12_champion_84 rfl ?_
      exact j_ireturn hc dX12_champion_85 rfl rfl hf
    · refine j_aload_n hc dX12_champion_24 rfl ?_
      refine j_iload hc dX12_champion_25 rfl ?_
      refine j_callVI (t := 0) (As := [.int a4]) hc dX12_champion_27 kw_1780 mX12_side kM_0 clX12 rfl (by omega) (Nat.le_of_ble_eq_true rfl) (Nat.le_of_ble_eq_true rfl) ⟨Nat.le_refl _, Nat.le_refl _⟩ hf (fun v I' L' h => qX12_side x.2.1 n d a4 I1 L1 v I' L' h) (fun v2 I2 L2 hf => ?_)
      refine j_iload_n hc dX12_champion_30 rfl ?_
      refine j_icmp_ne (tgt := 55) hc dX12_champion_31 rfl hf (fun hf => ?_) (fun hf => ?_)
      · exact j_sub (tX12_champion_b55 n d hc k7 hk7 _ _ _ _ _ _ hf) (And.intro rfl (And.intro rfl (And.intro rfl (And.intro rfl (And.intro rfl (trivial))))))
      · refine j_aload_n hc dX12_champion_34 rfl ?_
        refine j_getR (u := 17) hc dX12_champion_35 fgM_X12_58_0 rM_0_27 ?_
        refine j_iconst (v := (0 : Int32)) hc dX12_champion_38 ci_0 ?_
        refine j_iload hc dX12_champion_39 rfl ?_
        refine j_iadd hc dX12_champion_41 ?_
        refine j_iaload (n := 206) hc dX12_champion_42 kM_17 hf (fun v3 hf => ?_)
        refine j_if_le (tgt := 55) hc dX12_champion_43 rfl hf (fun hf => ?_) (fun hf => ?_)
        · exact j_sub (tX12_champion_b55 n d hc k7 hk7 _ _ _ _ _ _ hf) (And.intro rfl (And.intro rfl (And.intro rfl (And.intro rfl (And.intro rfl (trivial))))))
        · refine j_aload_n hc dX12_champion_46 rfl ?_
          refine j_iload hc dX12_champion_47 rfl ?_
          refine j_callVI (t := 0) (As := [.int a4]) hc dX12_champion_49 kw_1952 mX12_wins kM_0 clX12 rfl (by omega) (Nat.le_of_ble_eq_true rfl) (Nat.le_of_ble_eq_true rfl) ⟨Nat.le_refl _, Nat.le_refl _⟩ hf (fun v I' L' h => qX12_wins x.2.1 n d a4 I2 L2 v I' L' h) (fun v4 I4 L4 hf => ?_)
          refine j_goto (tgt := 56) hc dX12_champion_52 rfl ?_
          exact j_sub (tX12_champion_b56 n d hc k7 hk7 _ _ _ _ _ _ _ hf) (And.intro rfl (And.intro rfl (And.intro rfl (And.intro rfl (And.intro rfl (trivial))))))

def fX12_champion_b7 (n d : Nat) : Nat → Int32 → Int32 → Int32 → Int32 → am_I → am_L → Option (Int32 × am_I × am_L)
  | 0 => fun _ _ _ _ _ _ => none
  | m + 1 => fX12_champion_b7w n d  (fX12_champion_b7 n d m)

set_option maxRecDepth 100000 in
theorem tX12_champion_b7 {x : am_X} (n d : Nat) (hc : am_ok x cX12_champion yX12_champion 6 (some .int) (d + 5) 0 0) {r : Int32} {I' : am_I} {L' : am_L} (m : Nat) : ∀ (a1 : Int32) (a2 : Int32) (a3 : Int32) (a4 : Int32) (I : am_I) (L : am_L) (hf : fX12_champion_b7 n d m a1 a2 a3 a4 I L = some (r, I', L')), am_J x (fun S => S = (some (.int r), KM, RM, I', L')) 7 [some (.ref 0), some (.int a1), some (.int a2), some (.int a3), some (.int a4), none] [] KM RM I L 0 0 := by
  induction m with
  | zero => intro a1 a2 a3 a4 I L hf; exact (Option.some_ne_none _ hf.symm).elim
  | succ m ih => intro a1 a2 a3 a4 I L hf; exact tX12_champion_b7w n d hc (fX12_champion_b7 n d m) ih a1 a2 a3 a4 I L hf

set_option maxRecDepth 100000 in
def fX12_champion (n d : Nat) (a1 : Int32) (I : am_I) (L : am_L) : Option (Int32 × am_I × am_L) :=
  am_lt (-1 : Int32) (fun v1 => am_lt (-1 : Int32) (fun v2 => am_lt (0 : Int32) (fun v3 => fX12_champion_b7 n d n a1 v1 v2 v3 I L)))

set_option maxRecDepth 100000 in
set_option maxHeartbeats 4000000 in
theorem tX12_champion {x : am_X} (n d : Nat) (hc : am_ok x cX12_champion yX12_champion 6 (some .int) (d + 5) 0 0) {r : Int32} {I' : am_I} {L' : am_L} (a1 : Int32) (I : am_I) (L : am_L) (hf : fX12_champion n d a1 I L = some (r, I', L')) : am_J x (fun S => S = (some (.int r), KM, RM, I', L')) 0 [some (.ref 0), some (.int a1), none, none, none, none] [] KM RM I L 0 0 := by
  unfold fX12_champion at hf
  refine j_iconst (v := (-1 : Int32)) hc dX12_champion_0 ci_m1 ?_
  refine j_istore_n hc dX12_champion_1 (Nat.le_of_ble_eq_true rfl) hf (fun v1 hf => ?_)
  refine j_iconst (v := (-1 : Int32)) hc dX12_champion_2 ci_m1 ?_
  refine j_istore_n hc dX12_champion_3 (Nat.le_of_ble_eq_true rfl) hf (fun v2 hf => ?_)
  refine j_iconst (v := (0 : Int32)) hc dX12_champion_4 ci_0 ?_
  refine j_istore hc dX12_champion_5 (Nat.le_of_ble_eq_true rfl) hf (fun v3 hf => ?_)
  exact j_sub (tX12_champion_b7 n d hc n _ _ _ _ _ _ hf) (And.intro rfl (And.intro rfl (And.intro rfl (And.intro rfl (And.intro rfl (trivial))))))

set_option maxRecDepth 100000 in
theorem qX12_champion (l : Launch) (n d : Nat) (a1 : Int32) (I : am_I) (L : am_L) (r : Int32) (I' : am_I) (L' : am_L) (hf : fX12_champion n d a1 I L = some (r, I', L')) : am_C l yX12_champion cX12_champion 6 (some .int) (d + 5) [.ref 0, .int a1] KM RM I L (some (.int r)) I' L' := by
  exact am_intro (plainFor_of_name plX12) (fun _ _ => trivial) (Nat.le_of_ble_eq_true rfl) (fun x hl hc => by subst hl; exact j_sub (tX12_champion n d hc _ _ _ hf) (And.intro rfl (And.intro rfl (trivial))))
set_option maxRecDepth 100000 in
def fX12_canEscort (n d : Nat) (a1 : Int32) (a2 : Int32) (I : am_I) (L : am_L) : Option (Int32 × am_I × am_L) :=
  am_b3 (fX12_side n d a1 I L) (fun v1 I1 L1 => if v1 = a2 then
    (am_b3 (fX12_isHome n d a1 I1 L1) (fun v2 I2 L2 => if v2 = 0 then
      (am_ck ((8 : Int32) + a1) 206 (am_lt (I2 17 (((8 : Int32) + a1)).toNatClampNeg) (fun v3 => if v3 ≤ 0 then
        (some ((0 : Int32), I2, L2))
        else
        (some ((1 : Int32), I2, L2)))))
      else
      (some ((0 : Int32), I2, L2))))
    else
    (some ((0 : Int32), I1, L1)))

set_option maxRecDepth 100000 in
set_option maxHeartbeats 4000000 in
theorem tX12_canEscort {x : am_X} (n d : Nat) (hc : am_ok x cX12_canEscort yX12_canEscort 3 (some .boolean) (d + 8) 0 0) {r : Int32} {I' : am_I} {L' : am_L} (a1 : Int32) (a2 : Int32) (I : am_I) (L : am_L) (hf : fX12_canEscort n d a1 a2 I L = some (r, I', L')) : am_J x (fun S => S = (some (.int r), KM, RM, I', L')) 0 [some (.ref 0), some (.int a1), some (.int a2)] [] KM RM I L 0 0 := by
  unfold fX12_canEscort at hf
  refine j_aload_n hc dX12_canEscort_0 rfl ?_
  refine j_iload_n hc dX12_canEscort_1 rfl ?_
  refine j_callVI (t := 0) (As := [.int a1]) hc dX12_canEscort_2 kw_1780 mX12_side kM_0 clX12 rfl (by omega) (Nat.le_of_ble_eq_true rfl) (Nat.le_of_ble_eq_true rfl) ⟨Nat.le_refl _, Nat.le_refl _⟩ hf (fun v I' L' h => qX12_side x.2.1 n d a1 I L v I' L' h) (fun v1 I1 L1 hf => ?_)
  refine j_iload_n hc dX12_canEscort_5 rfl ?_
  refine j_icmp_ne (tgt := 33) hc dX12_canEscort_6 rfl hf (fun hf => ?_) (fun hf => ?_)
  · refine j_iconst (v := (0 : Int32)) hc dX12_canEscort_33 ci_0 ?_
    exact j_zret hc dX12_canEscort_34 rfl rfl (Or.inl rfl) hf
  · refine j_aload_n hc dX12_canEscort_9 rfl ?_
    refine j_iload_n hc dX12_canEscort_10 rfl ?_
    refine j_callVI (t := 0) (As := [.int a1]) hc dX12_canEscort_11 kw_1772 mX12_isHome kM_0 clX12 rfl (by omega) (Nat.le_of_ble_eq_true rfl) (Nat.le_of_ble_eq_true rfl) ⟨Nat.le_refl _, Nat.le_refl _⟩ hf (fun v I' L' h => qX12_isHome x.2.1 n d a1 I1 L1 v I' L' h) (fun v2 I2 L2 hf => ?_)
    refine j_if_ne (tgt := 33) hc dX12_canEscort_14 rfl hf (fun hf => ?_) (fun hf => ?_)
    · refine j_iconst (v := (0 : Int32)) hc dX12_canEscort_33 ci_0 ?_
      exact j_zret hc dX12_canEscort_34 rfl rfl (Or.inl rfl) hf
    · refine j_aload_n hc dX12_canEscort_17 rfl ?_
      refine j_getR (u := 17) hc dX12_canEscort_18 fgM_X12_58_0 rM_0_27 ?_
      refine j_bipush (v := (8 : Int32)) hc dX12_canEscort_21 cb_8 ?_
      refine j_iload_n hc dX12_canEscort_23 rfl ?_
      refine j_iadd hc dX12_canEscort_24 ?_
      refine j_iaload (n := 206) hc dX12_canEscort_25 kM_17 hf (fun v3 hf => ?_)
      refine j_if_le (tgt := 33) hc dX12_canEscort_26 rfl hf (fun hf => ?_) (fun hf => ?_)
      · refine j_iconst (v := (0 : Int32)) hc dX12_canEscort_33 ci_0 ?_
        exact j_zret hc dX12_canEscort_34 rfl rfl (Or.inl rfl) hf
      · refine j_iconst (v := (1 : Int32)) hc dX12_canEscort_29 ci_1 ?_
        refine j_goto (tgt := 34) hc dX12_canEscort_30 rfl ?_
        exact j_zret hc dX12_canEscort_34 rfl rfl (Or.inr rfl) hf

set_option maxRecDepth 100000 in
theorem qX12_canEscort (l : Launch) (n d : Nat) (a1 : Int32) (a2 : Int32) (I : am_I) (L : am_L) (r : Int32) (I' : am_I) (L' : am_L) (hf : fX12_canEscort n d a1 a2 I L = some (r, I', L')) : am_C l yX12_canEscort cX12_canEscort 3 (some .boolean) (d + 8) [.ref 0, .int a1, .int a2] KM RM I L (some (.int r)) I' L' := by
  exact am_intro (plainFor_of_name plX12) (fun _ _ => trivial) (Nat.le_of_ble_eq_true rfl) (fun x hl hc => by subst hl; exact j_sub (tX12_canEscort n d hc _ _ _ _ hf) (And.intro rfl (And.intro rfl (And.intro rfl (trivial)))))
set_option maxRecDepth 100000 in
def fX12_isEscorted (n d : Nat) (a1 : Int32) (a2 : Int32) (I : am_I) (L : am_L) : Option (Int32 × am_I × am_L) :=
  am_b3 (fX12_side n d a2 I L) (fun v1 I1 L1 => am_b3 (fX12_side n d a1 I1 L1) (fun v2 I2 L2 => if v1 = v2 then
    (some ((0 : Int32), I2, L2))
    else
    (am_b3 (fX12_isHome n d a2 I2 L2) (fun v3 I3 L3 => if v3 = 0 then
      (am_ck ((0 : Int32) + a2) 206 (am_lt (I3 17 (((0 : Int32) + a2)).toNatClampNeg) (fun v4 => am_ck (((6 : Int32) * a1) + (2 : Int32)) 48 (am_lt (I3 14 ((((6 : Int32) * a1) + (2 : Int32))).toNatClampNeg) (fun v5 => am_b3 (fX12_in n d v4 (1 : Int32) v5 I3 L3) (fun v6 I6 L6 => if v6 = 0 then
        (some ((0 : Int32), I6, L6))
        else
        (some ((1 : Int32), I6, L6))))))))
      else
      (some ((0 : Int32), I3, L3))))))

set_option maxRecDepth 100000 in
set_option maxHeartbeats 4000000 in
theorem tX12_isEscorted {x : am_X} (n d : Nat) (hc : am_ok x cX12_isEscorted yX12_isEscorted 3 (some .boolean) (d + 8) 0 0) {r : Int32} {I' : am_I} {L' : am_L} (a1 : Int32) (a2 : Int32) (I : am_I) (L : am_L) (hf : fX12_isEscorted n d a1 a2 I L = some (r, I', L')) : am_J x (fun S => S = (some (.int r), KM, RM, I', L')) 0 [some (.ref 0), some (.int a1), some (.int a2)] [] KM RM I L 0 0 := by
  unfold fX12_isEscorted at hf
  refine j_aload_n hc dX12_isEscorted_0 rfl ?_
  refine j_iload_n hc dX12_isEscorted_1 rfl ?_
  refine j_callVI (t := 0) (As := [.int a2]) hc dX12_isEscorted_2 kw_1780 mX12_side kM_0 clX12 rfl (by omega) (Nat.le_of_ble_eq_true rfl) (Nat.le_of_ble_eq_true rfl) ⟨Nat.le_refl _, Nat.le_refl _⟩ hf (fun v I' L' h => qX12_side x.2.1 n d a2 I L v I' L' h) (fun v1 I1 L1 hf => ?_)
  refine j_aload_n hc dX12_isEscorted_5 rfl ?_
  refine j_iload_n hc dX12_isEscorted_6 rfl ?_
  refine j_callVI (t := 0) (As := [.int a1]) hc dX12_isEscorted_7 kw_1780 mX12_side kM_0 clX12 rfl (by omega) (Nat.le_of_ble_eq_true rfl) (Nat.le_of_ble_eq_true rfl) ⟨Nat.le_refl _, Nat.le_refl _⟩ hf (fun v I' L' h => qX12_side x.2.1 n d a1 I1 L1 v I' L' h) (fun v2 I2 L2 hf => ?_)
  refine j_icmp_eq (tgt := 51) hc dX12_isEscorted_10 rfl hf (fun hf => ?_) (fun hf => ?_)
  · refine j_iconst (v := (0 : Int32)) hc dX12_isEscorted_51 ci_0 ?_
    exact j_zret hc dX12_isEscorted_52 rfl rfl (Or.inl rfl) hf
  · refine j_aload_n hc dX12_isEscorted_13 rfl ?_
    refine j_iload_n hc dX12_isEscorted_14 rfl ?_
    refine j_callVI (t := 0) (As := [.int a2]) hc dX12_isEscorted_15 kw_1772 mX12_isHome kM_0 clX12 rfl (by omega) (Nat.le_of_ble_eq_true rfl) (Nat.le_of_ble_eq_true rfl) ⟨Nat.le_refl _, Nat.le_refl _⟩ hf (fun v I' L' h => qX12_isHome x.2.1 n d a2 I2 L2 v I' L' h) (fun v3 I3 L3 hf => ?_)
    refine j_if_ne (tgt := 51) hc dX12_isEscorted_18 rfl hf (fun hf => ?_) (fun hf => ?_)
    · refine j_iconst (v := (0 : Int32)) hc dX12_isEscorted_51 ci_0 ?_
      exact j_zret hc dX12_isEscorted_52 rfl rfl (Or.inl rfl) hf
    · refine j_aload_n hc dX12_isEscorted_21 rfl ?_
      refine j_getR (u := 17) hc dX12_isEscorted_22 fgM_X12_58_0 rM_0_27 ?_
      refine j_iconst (v := (0 : Int32)) hc dX12_isEscorted_25 ci_0 ?_
      refine j_iload_n hc dX12_isEscorted_26 rfl ?_
      refine j_iadd hc dX12_isEscorted_27 ?_
      refine j_iaload (n := 206) hc dX12_isEscorted_28 kM_17 hf (fun v4 hf => ?_)
      refine j_iconst (v := (1 : Int32)) hc dX12_isEscorted_29 ci_1 ?_
      refine j_aload_n hc dX12_isEscorted_30 rfl ?_
      refine j_getR (u := 14) hc dX12_isEscorted_31 fgM_X12_49_0 rM_0_22 ?_
      refine j_bipush (v := (6 : Int32)) hc dX12_isEscorted_34 cb_6 ?_
      refine j_iload_n hc dX12_isEscorted_36 rfl ?_
      refine j_imul hc dX12_isEscorted_37 ?_
      refine j_iconst (v := (2 : Int32)) hc dX12_isEscorted_38 ci_2 ?_
      refine j_iadd hc dX12_isEscorted_39 ?_
      refine j_iaload (n := 48) hc dX12_isEscorted_40 kM_14 hf (fun v5 hf => ?_)
      refine j_callSI (As := [.int v4, .int (1 : Int32), .int v5]) hc dX12_isEscorted_41 kw_1671 mX12_in  rfl (by omega) (Nat.le_of_ble_eq_true rfl) (Nat.le_of_ble_eq_true rfl) ⟨Nat.le_refl _, Nat.le_refl _⟩ hf (fun v I' L' h => qX12_in x.2.1 n d v4 (1 : Int32) v5 I3 L3 v I' L' h) (fun v6 I6 L6 hf => ?_)
      refine j_if_eq (tgt := 51) hc dX12_isEscorted_44 rfl hf (fun hf => ?_) (fun hf => ?_)
      · refine j_iconst (v := (0 : Int32)) hc dX12_isEscorted_51 ci_0 ?_
        exact j_zret hc dX12_isEscorted_52 rfl rfl (Or.inl rfl) hf
      · refine j_iconst (v := (1 : Int32)) hc dX12_isEscorted_47 ci_1 ?_
        refine j_goto (tgt := 52) hc dX12_isEscorted_48 rfl ?_
        exact j_zret hc dX12_isEscorted_52 rfl rfl (Or.inr rfl) hf

set_option maxRecDepth 100000 in
theorem qX12_isEscorted (l : Launch) (n d : Nat) (a1 : Int32) (a2 : Int32) (I : am_I) (L : am_L) (r : Int32) (I' : am_I) (L' : am_L) (hf : fX12_isEscorted n d a1 a2 I L = some (r, I', L')) : am_C l yX12_isEscorted cX12_isEscorted 3 (some .boolean) (d + 8) [.ref 0, .int a1, .int a2] KM RM I L (some (.int r)) I' L' := by
  exact am_intro (plainFor_of_name plX12) (fun _ _ => trivial) (Nat.le_of_ble_eq_true rfl) (fun x hl hc => by subst hl; exact j_sub (tX12_isEscorted n d hc _ _ _ _ hf) (And.intro rfl (And.intro rfl (And.intro rfl (trivial)))))
set_option maxRecDepth 100000 in
def fX12_tryEscorts_b108 (n d : Nat) (g : Nat → Int32 → Int32 → Int32 → Int32 → Int32 → am_I → am_L → Option (Int32 × am_I × am_L)) (k58 : Int32 → Int32 → Int32 → Int32 → Int32 → am_I → am_L → Option (am_I × am_L)) (a1 : Int32) (a2 : Int32) (a3 : Int32) (a4 : Int32) (a5 : Int32) (I : am_I) (L : am_L) : Option (am_I × am_L) :=
  am_lt (a5 + (1 : Int32)) (fun v1 => k58 a1 a2 a3 a4 v1 I L)

set_option maxRecDepth 100000 in
set_option maxHeartbeats 4000000 in
theorem tX12_tryEscorts_b108 {x : am_X} (n d : Nat) (g : Nat → Int32 → Int32 → Int32 → Int32 → Int32 → am_I → am_L → Option (Int32 × am_I × am_L)) (hg : ∀ (w : Nat) (e1 e2 e3 e4 e5 : Int32) (I : am_I) (L : am_L) (v : Int32) (I' : am_I) (L' : am_L), g w e1 e2 e3 e4 e5 I L = some (v, I', L') → (w = 0 → am_C x.2.1 yX12_tryEscorts cX12_tryEscorts 6 none (d + 9) [.ref 0, .int e1, .int e2, .int e3, .int e4] KM RM I L none I' L')) (hc : am_ok x cX12_tryEscorts yX12_tryEscorts 6 none (d + 10) 0 0) {I' : am_I} {L' : am_L} (k58 : Int32 → Int32 → Int32 → Int32 → Int32 → am_I → am_L → Option (am_I × am_L)) (hk58 : ∀ (a1 : Int32) (a2 : Int32) (a3 : Int32) (a4 : Int32) (a5 : Int32) (I : am_I) (L : am_L), k58 a1 a2 a3 a4 a5 I L = some (I', L') → am_J x (fun S => S = (none, KM, RM, I', L')) 58 [some (.ref 0), some (.int a1), some (.int a2), some (.int a3), some (.int a4), some (.int a5)] [] KM RM I L 0 0) (a1 : Int32) (a2 : Int32) (a3 : Int32) (a4 : Int32) (a5 : Int32) (I : am_I) (L : am_L) (hf : fX12_tryEscorts_b108 n d g k58 a1 a2 a3 a4 a5 I L = some (I', L')) : am_J x (fun S => S = (none, KM, RM, I', L')) 108 [some (.ref 0), some (.int a1), some (.int a2), some (.int a3), some (.int a4), some (.int a5)] [] KM RM I L 0 0 := by
  unfold fX12_tryEscorts_b108 at hf
  refine j_iinc (w := (1 : Int32)) hc dX12_tryEscorts_108 rfl ci_1 (Nat.le_of_ble_eq_true rfl) hf (fun v1 hf => ?_)
  refine j_goto (tgt := 58) hc dX12_tryEscorts_111 rfl ?_
  exact j_sub (hk58 _ _ _ _ _ _ _ hf) (And.intro rfl (And.intro rfl (And.intro rfl (And.intro rfl (And.intro rfl (And.intro rfl (trivial)))))))

set_option maxRecDepth 100000 in
def fX12_tryEscorts_b58w (n d : Nat) (g : Nat → Int32 → Int32 → Int32 → Int32 → Int32 → am_I → am_L → Option (Int32 × am_I × am_L)) (k58 : Int32 → Int32 → Int32 → Int32 → Int32 → am_I → am_L → Option (am_I × am_L)) (a1 : Int32) (a2 : Int32) (a3 : Int32) (a4 : Int32) (a5 : Int32) (I : am_I) (L : am_L) : Option (am_I × am_L) :=
  if (I 0 25) ≤ a5 then
    (am_b3 (g 0 (a1 + (1 : Int32)) a2 a3 (((10 : Int32) * a4) + (9 : Int32)) 0 I L) (fun v1 I1 L1 => some (I1, L1)))
    else
    (am_b3 (fX12_has n d a3 a5 I L) (fun v2 I2 L2 => if v2 = 0 then
      (am_b3 (fX12_isEscorted n d a1 a5 I2 L2) (fun v3 I3 L3 => if v3 = 0 then
        (fX12_tryEscorts_b108 n d g k58 a1 a2 a3 a4 a5 I3 L3)
        else
        (am_b3 (g 0 (a1 + (1 : Int32)) a2 (a3 ||| ((1 : Int32) <<< (a5 &&& 31))) (((10 : Int32) * a4) + a5) 0 I3 L3) (fun v4 I4 L4 => fX12_tryEscorts_b108 n d g k58 a1 a2 a3 a4 a5 I4 L4))))
      else
      (fX12_tryEscorts_b108 n d g k58 a1 a2 a3 a4 a5 I2 L2)))

set_option maxRecDepth 100000 in
set_option maxHeartbeats 4000000 in
theorem tX12_tryEscorts_b58w {x : am_X} (n d : Nat) (g : Nat → Int32 → Int32 → Int32 → Int32 → Int32 → am_I → am_L → Option (Int32 × am_I × am_L)) (hg : ∀ (w : Nat) (e1 e2 e3 e4 e5 : Int32) (I : am_I) (L : am_L) (v : Int32) (I' : am_I) (L' : am_L), g w e1 e2 e3 e4 e5 I L = some (v, I', L') → (w = 0 → am_C x.2.1 yX12_tryEscorts cX12_tryEscorts 6 none (d + 9) [.ref 0, .int e1, .int e2, .int e3, .int e4] KM RM I L none I' L')) (hc : am_ok x cX12_tryEscorts yX12_tryEscorts 6 none (d + 10) 0 0) {I' : am_I} {L' : am_L} (k58 : Int32 → Int32 → Int32 → Int32 → Int32 → am_I → am_L → Option (am_I × am_L)) (hk58 : ∀ (a1 : Int32) (a2 : Int32) (a3 : Int32) (a4 : Int32) (a5 : Int32) (I : am_I) (L : am_L), k58 a1 a2 a3 a4 a5 I L = some (I', L') → am_J x (fun S => S = (none, KM, RM, I', L')) 58 [some (.ref 0), some (.int a1), some (.int a2), some (.int a3), some (.int a4), some (.int a5)] [] KM RM I L 0 0) (a1 : Int32) (a2 : Int32) (a3 : Int32) (a4 : Int32) (a5 : Int32) (I : am_I) (L : am_L) (hf : fX12_tryEscorts_b58w n d g k58 a1 a2 a3 a4 a5 I L = some (I', L')) : am_J x (fun S => S = (none, KM, RM, I', L')) 58 [some (.ref 0), some (.int a1), some (.int a2), some (.int a3), some (.int a4), some (.int a5)] [] KM RM I L 0 0 := by
  unfold fX12_tryEscorts_b58w at hf
  refine j_iload hc dX12_tryEscorts_58 rfl ?_
  refine j_aload_n hc dX12_tryEscorts_60 rfl ?_
  refine j_getI hc dX12_tryEscorts_61 fgM_X12_250_0 ?_
  refine j_icmp_ge (tgt := 114) hc dX12_tryEscorts_64 rfl hf (fun hf => ?_) (fun hf => ?_)
  · refine j_aload_n hc dX12_tryEscorts_114 rfl ?_
    refine j_iload_n hc dX12_tryEscorts_115 rfl ?_
    refine j_iconst (v := (1 : Int32)) hc dX12_tryEscorts_116 ci_1 ?_
    refine j_iadd hc dX12_tryEscorts_117 ?_
    refine j_iload_n hc dX12_tryEscorts_118 rfl ?_
    refine j_iload_n hc dX12_tryEscorts_119 rfl ?_
    refine j_bipush (v := (10 : Int32)) hc dX12_tryEscorts_120 cb_10 ?_
    refine j_iload hc dX12_tryEscorts_122 rfl ?_
    refine j_imul hc dX12_tryEscorts_124 ?_
    refine j_bipush (v := (9 : Int32)) hc dX12_tryEscorts_125 cb_9 ?_
    refine j_iadd hc dX12_tryEscorts_127 ?_
    refine j_callVW (t := 0) (As := [.int (a1 + (1 : Int32)), .int a2, .int a3, .int (((10 : Int32) * a4) + (9 : Int32))]) hc dX12_tryEscorts_128 kw_1973 mX12_tryEscorts kM_0 clX12 rfl (by omega) (Nat.le_of_ble_eq_true rfl) (Nat.le_of_ble_eq_true rfl) ⟨Nat.le_refl _, Nat.le_refl _⟩ hf (fun v I' L' h => (hg 0 _ _ _ _ _ _ _ _ _ _ h) rfl) (fun v1 I1 L1 hf => ?_)
    exact j_return hc dX12_tryEscorts_131 rfl rfl hf
  · refine j_iload_n hc dX12_tryEscorts_67 rfl ?_
    refine j_iload hc dX12_tryEscorts_68 rfl ?_
    refine j_callSI (As := [.int a3, .int a5]) hc dX12_tryEscorts_70 kw_1651 mX12_has  rfl (by omega) (Nat.le_of_ble_eq_true rfl) (Nat.le_of_ble_eq_true rfl) ⟨Nat.le_refl _, Nat.le_refl _⟩ hf (fun v I' L' h => qX12_has x.2.1 n d a3 a5 I L v I' L' h) (fun v2 I2 L2 hf => ?_)
    refine j_if_ne (tgt := 108) hc dX12_tryEscorts_73 rfl hf (fun hf => ?_) (fun hf => ?_)
    · exact j_sub (tX12_tryEscorts_b108 n d g hg hc k58 hk58 _ _ _ _ _ _ _ hf) (And.intro rfl (And.intro rfl (And.intro rfl (And.intro rfl (And.intro rfl (And.intro rfl (trivial)))))))
    · refine j_aload_n hc dX12_tryEscorts_76 rfl ?_
      refine j_iload_n hc dX12_tryEscorts_77 rfl ?_
      refine j_iload hc dX12_tryEscorts_78 rfl ?_
      refine j_callVI (t := 0) (As := [.int a1, .int a5]) hc dX12_tryEscorts_80 kw_1982 mX12_isEscorted kM_0 clX12 rfl (by omega) (Nat.le_of_ble_eq_true rfl) (Nat.le_of_ble_eq_true rfl) ⟨Nat.le_refl _, Nat.le_refl _⟩ hf (fun v I' L' h => qX12_isEscorted x.2.1 n d a1 a5 I2 L2 v I' L' h) (fun v3 I3 L3 hf => ?_)
      refine j_if_eq (tgt := 108) hc dX12_tryEscorts_83 rfl hf (fun hf => ?_) (fun hf => ?_)
      · exact j_sub (tX12_tryEscorts_b108 n d g hg hc k58 hk58 _ _ _ _ _ _ _ hf) (And.intro rfl (And.intro rfl (And.intro rfl (And.intro rfl (And.intro rfl (And.intro rfl (trivial)))))))
      · refine j_aload_n hc dX12_tryEscorts_86 rfl ?_
        refine j_iload_n hc dX12_tryEscorts_87 rfl ?_
        refine j_iconst (v := (1 : Int32)) hc dX12_tryEscorts_88 ci_1 ?_
        refine j_iadd hc dX12_tryEscorts_89 ?_
        refine j_iload_n hc dX12_tryEscorts_90 rfl ?_
        refine j_iload_n hc dX12_tryEscorts_91 rfl ?_
        refine j_iconst (v := (1 : Int32)) hc dX12_tryEscorts_92 ci_1 ?_
        refine j_iload hc dX12_tryEscorts_93 rfl ?_
        refine j_ishl hc dX12_tryEscorts_95 ?_
        refine j_ior hc dX12_tryEscorts_96 ?_
        refine j_bipush (v := (10 : Int32)) hc dX12_tryEscorts_97 cb_10 ?_
        refine j_iload hc dX12_tryEscorts_99 rfl ?_
        refine j_imul hc dX12_tryEscorts_101 ?_
        refine j_iload hc dX12_tryEscorts_102 rfl ?_
        refine j_iadd hc dX12_tryEscorts_104 ?_
        refine j_callVW (t := 0) (As := [.int (a1 + (1 : Int32)), .int a2, .int (a3 ||| ((1 : Int32) <<< (a5 &&& 31))), .int (((10 : Int32) * a4) + a5)]) hc dX12_tryEscorts_105 kw_1973 mX12_tryEscorts kM_0 clX12 rfl (by omega) (Nat.le_of_ble_eq_true rfl) (Nat.le_of_ble_eq_true rfl) ⟨Nat.le_refl _, Nat.le_refl _⟩ hf (fun v I' L' h => (hg 0 _ _ _ _ _ _ _ _ _ _ h) rfl) (fun v4 I4 L4 hf => ?_)
        exact j_sub (tX12_tryEscorts_b108 n d g hg hc k58 hk58 _ _ _ _ _ _ _ hf) (And.intro rfl (And.intro rfl (And.intro rfl (And.intro rfl (And.intro rfl (And.intro rfl (trivial)))))))

def fX12_tryEscorts_b58 (n d : Nat) (g : Nat → Int32 → Int32 → Int32 → Int32 → Int32 → am_I → am_L → Option (Int32 × am_I × am_L)) : Nat → Int32 → Int32 → Int32 → Int32 → Int32 → am_I → am_L → Option (am_I × am_L)
  | 0 => fun _ _ _ _ _ _ _ => none
  | m + 1 => fX12_tryEscorts_b58w n d g (fX12_tryEscorts_b58 n d g m)

set_option maxRecDepth 100000 in
theorem tX12_tryEscorts_b58 {x : am_X} (n d : Nat) (g : Nat → Int32 → Int32 → Int32 → Int32 → Int32 → am_I → am_L → Option (Int32 × am_I × am_L)) (hg : ∀ (w : Nat) (e1 e2 e3 e4 e5 : Int32) (I : am_I) (L : am_L) (v : Int32) (I' : am_I) (L' : am_L), g w e1 e2 e3 e4 e5 I L = some (v, I', L') → (w = 0 → am_C x.2.1 yX12_tryEscorts cX12_tryEscorts 6 none (d + 9) [.ref 0, .int e1, .int e2, .int e3, .int e4] KM RM I L none I' L')) (hc : am_ok x cX12_tryEscorts yX12_tryEscorts 6 none (d + 10) 0 0) {I' : am_I} {L' : am_L} (m : Nat) : ∀ (a1 : Int32) (a2 : Int32) (a3 : Int32) (a4 : Int32) (a5 : Int32) (I : am_I) (L : am_L) (hf : fX12_tryEscorts_b58 n d g m a1 a2 a3 a4 a5 I L = some (I', L')), am_J x (fun S => S = (none, KM, RM, I', L')) 58 [some (.ref 0), some (.int a1), some (.int a2), some (.int a3), some (.int a4), some (.int a5)] [] KM RM I L 0 0 := by
  induction m with
  | zero => intro a1 a2 a3 a4 a5 I L hf; exact (Option.some_ne_none _ hf.symm).elim
  | succ m ih => intro a1 a2 a3 a4 a5 I L hf; exact tX12_tryEscorts_b58w n d g hg hc (fX12_tryEscorts_b58 n d g m) ih a1 a2 a3 a4 a5 I L hf

set_option maxRecDepth 100000 in
def fX12_tryEscorts_g (n d : Nat) (g : Nat → Int32 → Int32 → Int32 → Int32 → Int32 → am_I → am_L → Option (Int32 × am_I × am_L)) (a1 : Int32) (a2 : Int32) (a3 : Int32) (a4 : Int32) (I : am_I) (L : am_L) : Option (am_I × am_L) :=
  if a1 = (I 0 25) then
    (am_b3 (fJ6_bitCount_0f7a4 n d a3 I L) (fun v4 I4 L4 => if v4 ≤ (I4 0 35) then
      (some (I4, L4))
      else
      (am_b3 (fJ6_bitCount_0f7a4 n d a3 I4 L4) (fun v5 I5 L5 => am_lt (am_up I5 0 35 v5) (fun I6 => am_lt (am_up I6 0 36 a4) (fun I7 => some (I7, L5)))))))
    else
    (am_b3 (fX12_canEscort n d a1 a2 I L) (fun v1 I1 L1 => if v1 = 0 then
      (am_b3 (g 0 (a1 + (1 : Int32)) a2 a3 a4 0 I1 L1) (fun v3 I3 L3 => some (I3, L3)))
      else
      (am_lt (0 : Int32) (fun v2 => fX12_tryEscorts_b58 n d g n a1 a2 a3 a4 v2 I1 L1))))

set_option maxRecDepth 100000 in
set_option maxHeartbeats 4000000 in
theorem tX12_tryEscorts_g {x : am_X} (n d : Nat) (g : Nat → Int32 → Int32 → Int32 → Int32 → Int32 → am_I → am_L → Option (Int32 × am_I × am_L)) (hg : ∀ (w : Nat) (e1 e2 e3 e4 e5 : Int32) (I : am_I) (L : am_L) (v : Int32) (I' : am_I) (L' : am_L), g w e1 e2 e3 e4 e5 I L = some (v, I', L') → (w = 0 → am_C x.2.1 yX12_tryEscorts cX12_tryEscorts 6 none (d + 9) [.ref 0, .int e1, .int e2, .int e3, .int e4] KM RM I L none I' L')) (hc : am_ok x cX12_tryEscorts yX12_tryEscorts 6 none (d + 10) 0 0) {I' : am_I} {L' : am_L} (a1 : Int32) (a2 : Int32) (a3 : Int32) (a4 : Int32) (I : am_I) (L : am_L) (hf : fX12_tryEscorts_g n d g a1 a2 a3 a4 I L = some (I', L')) : am_J x (fun S => S = (none, KM, RM, I', L')) 0 [some (.ref 0), some (.int a1), some (.int a2), some (.int a3), some (.int a4), none] [] KM RM I L 0 0 := by
  unfold fX12_tryEscorts_g at hf
  refine j_iload_n hc dX12_tryEscorts_0 rfl ?_
  refine j_aload_n hc dX12_tryEscorts_1 rfl ?_
  refine j_getI hc dX12_tryEscorts_2 fgM_X12_250_0 ?_
  refine j_icmp_ne (tgt := 34) hc dX12_tryEscorts_5 rfl hf (fun hf => ?_) (fun hf => ?_)
  · refine j_aload_n hc dX12_tryEscorts_34 rfl ?_
    refine j_iload_n hc dX12_tryEscorts_35 rfl ?_
    refine j_iload_n hc dX12_tryEscorts_36 rfl ?_
    refine j_callVI (t := 0) (As := [.int a1, .int a2]) hc dX12_tryEscorts_37 kw_1978 mX12_canEscort kM_0 clX12 rfl (by omega) (Nat.le_of_ble_eq_true rfl) (Nat.le_of_ble_eq_true rfl) ⟨Nat.le_refl _, Nat.le_refl _⟩ hf (fun v I' L' h => qX12_canEscort x.2.1 n d a1 a2 I L v I' L' h) (fun v1 I1 L1 hf => ?_)
    refine j_if_ne (tgt := 55) hc dX12_tryEscorts_40 rfl hf (fun hf => ?_) (fun hf => ?_)
    · refine j_iconst (v := (0 : Int32)) hc dX12_tryEscorts_55 ci_0 ?_
      refine j_istore hc dX12_tryEscorts_56 (Nat.le_of_ble_eq_true rfl) hf (fun v2 hf => ?_)
      exact j_sub (tX12_tryEscorts_b58 n d g hg hc n _ _ _ _ _ _ _ hf) (And.intro rfl (And.intro rfl (And.intro rfl (And.intro rfl (And.intro rfl (And.intro rfl (trivial)))))))
    · refine j_aload_n hc dX12_tryEscorts_43 rfl ?_
      refine j_iload_n hc dX12_tryEscorts_44 rfl ?_
      refine j_iconst (v := (1 : Int32)) hc dX12_tryEscorts_45 ci_1 ?_
      refine j_iadd hc dX12_tryEscorts_46 ?_
      refine j_iload_n hc dX12_tryEscorts_47 rfl ?_
      refine j_iload_n hc dX12_tryEscorts_48 rfl ?_
      refine j_iload hc dX12_tryEscorts_49 rfl ?_
      refine j_callVW (t := 0) (As := [.int (a1 + (1 : Int32)), .int a2, .int a3, .int a4]) hc dX12_tryEscorts_51 kw_1973 mX12_tryEscorts kM_0 clX12 rfl (by omega) (Nat.le_of_ble_eq_true rfl) (Nat.le_of_ble_eq_true rfl) ⟨Nat.le_refl _, Nat.le_refl _⟩ hf (fun v I' L' h => (hg 0 _ _ _ _ _ _ _ _ _ _ h) rfl) (fun v3 I3 L3 hf => ?_)
      exact j_return hc dX12_tryEscorts_54 rfl rfl hf
  · refine j_iload_n hc dX12_tryEscorts_8 rfl ?_
    refine j_callSI (As := [.int a3]) hc dX12_tryEscorts_9 kw_1977 mJ6_bitCount_0f7a4  rfl (by omega) (Nat.le_of_ble_eq_true rfl) (Nat.le_of_ble_eq_true rfl) ⟨Nat.le_refl _, Nat.le_refl _⟩ hf (fun v I' L' h => qJ6_bitCount_0f7a4 x.2.1 n d a3 I L v I' L' h) (fun v4 I4 L4 hf => ?_)
    refine j_aload_n hc dX12_tryEscorts_12 rfl ?_
    refine j_getI hc dX12_tryEscorts_13 fgM_X12_397_0 ?_
    refine j_icmp_le (tgt := 33) hc dX12_tryEscorts_16 rfl hf (fun hf => ?_) (fun hf => ?_)
    · exact j_return hc dX12_tryEscorts_33 rfl rfl hf
    · refine j_aload_n hc dX12_tryEscorts_19 rfl ?_
      refine j_iload_n hc dX12_tryEscorts_20 rfl ?_
      refine j_callSI (As := [.int a3]) hc dX12_tryEscorts_21 kw_1977 mJ6_bitCount_0f7a4  rfl (by omega) (Nat.le_of_ble_eq_true rfl) (Nat.le_of_ble_eq_true rfl) ⟨Nat.le_refl _, Nat.le_refl _⟩ hf (fun v I' L' h => qJ6_bitCount_0f7a4 x.2.1 n d a3 I4 L4 v I' L' h) (fun v5 I5 L5 hf => ?_)
      refine j_putI hc dX12_tryEscorts_24 fpM_X12_397_0 rfl rfl hf (fun I6 hf => ?_)
      refine j_aload_n hc dX12_tryEscorts_27 rfl ?_
      refine j_iload hc dX12_tryEscorts_28 rfl ?_
      refine j_putI hc dX12_tryEscorts_30 fpM_X12_400_0 rfl rfl hf (fun I7 hf => ?_)
      exact j_return hc dX12_tryEscorts_33 rfl rfl hf

def gX12_tryEscorts (n : Nat) : Nat → Nat → Int32 → Int32 → Int32 → Int32 → Int32 → am_I → am_L → Option (Int32 × am_I × am_L)
  | 0 => fun _ _ _ _ _ _ _ _ => none
  | d + 1 => fun w e1 e2 e3 e4 e5 I L => match w with
    | 0 => am_b2 (fX12_tryEscorts_g n d (gX12_tryEscorts n d) e1 e2 e3 e4 I L) (fun I L => some (0, I, L))
    | _ => none
set_option maxRecDepth 100000 in
set_option maxHeartbeats 4000000 in
theorem cgX12_tryEscorts (l : Launch) (n d : Nat) : ∀ (w : Nat) (e1 e2 e3 e4 e5 : Int32) (I : am_I) (L : am_L) (v : Int32) (I' : am_I) (L' : am_L), gX12_tryEscorts n d w e1 e2 e3 e4 e5 I L = some (v, I', L') → (w = 0 → am_C l yX12_tryEscorts cX12_tryEscorts 6 none (d + 9) [.ref 0, .int e1, .int e2, .int e3, .int e4] KM RM I L none I' L') := by
  induction d with
  | zero => intro w e1 e2 e3 e4 e5 I L v I' L' hf; exact (Option.some_ne_none _ hf.symm).elim
  | succ d ih =>
    intro w e1 e2 e3 e4 e5 I L v I' L' hf
    refine ?_
    exact fun hw => by
          subst hw
          obtain ⟨I2, L2, h1, h2⟩ := am_b2E hf
          cases h2
          exact am_intro (plainFor_of_name plX12) (fun _ _ => trivial) (Nat.le_of_ble_eq_true rfl) (fun x hl hc => by subst hl; exact j_sub (tX12_tryEscorts_g n d (gX12_tryEscorts n d) ih hc _ _ _ _ _ _ h1) (And.intro rfl (And.intro rfl (And.intro rfl (And.intro rfl (And.intro rfl (trivial)))))))
def fX12_tryEscorts (n d : Nat) (a1 : Int32) (a2 : Int32) (a3 : Int32) (a4 : Int32) (I : am_I) (L : am_L) : Option (am_I × am_L) := am_b3 (gX12_tryEscorts n d 0 a1 a2 a3 a4 0 I L) (fun _ I L => some (I, L))
theorem qX12_tryEscorts (l : Launch) (n d : Nat) (a1 : Int32) (a2 : Int32) (a3 : Int32) (a4 : Int32) (I : am_I) (L : am_L) (I' : am_I) (L' : am_L) (hf : fX12_tryEscorts n d a1 a2 a3 a4 I L = some (I', L')) : am_C l yX12_tryEscorts cX12_tryEscorts 6 none (d + 9) [.ref 0, .int a1, .int a2, .int a3, .int a4] KM RM I L none I' L' := by
  obtain ⟨v, I2, L2, h1, h2⟩ := am_b3E hf
  cases h2
  exact (cgX12_tryEscorts l n d _ _ _ _ _ _ _ _ _ _ _ h1) rfl
set_option maxRecDepth 100000 in
def fX12_escorts (n d : Nat) (a1 : Int32) (a2 : Int32) (I : am_I) (L : am_L) : Option (Int32 × am_I × am_L) :=
  am_b3 (fX12_isSide n d a1 I L) (fun v1 I1 L1 => if v1 = 0 then
    (some ((-1 : Int32), I1, L1))
    else
    (am_b3 (fX12_in n d a2 (0 : Int32) (1 : Int32) I1 L1) (fun v2 I2 L2 => if v2 = 0 then
      (some ((-1 : Int32), I2, L2))
      else
      (am_lt (am_up I2 0 35 (-1 : Int32)) (fun I3 => am_b2 (fX12_tryEscorts n d (0 : Int32) a1 (0 : Int32) (0 : Int32) I3 L2) (fun I4 L4 => if a2 = 0 then
        (some ((I4 0 35), I4, L4))
        else
        (some ((I4 0 36), I4, L4))))))))

set_option maxRecDepth 100000 in
set_option maxHeartbeats 4000000 in
theorem tX12_escorts {x : am_X} (n d : Nat) (hc : am_ok x cX12_escorts yX12_escorts 3 (some .int) (d + 10) 0 0) {r : Int32} {I' : am_I} {L' : am_L} (a1 : Int32) (a2 : Int32) (I : am_I) (L : am_L) (hf : fX12_escorts n d a1 a2 I L = some (r, I', L')) : am_J x (fun S => S = (some (.int r), KM, RM, I', L')) 0 [some (.ref 0), some (.int a1), some (.int a2)] [] KM RM I L 0 0 := by
  unfold fX12_escorts at hf
  refine j_aload_n hc dX12_escorts_0 rfl ?_
  refine j_iload_n hc dX12_escorts_1 rfl ?_
  refine j_callVI (t := 0) (As := [.int a1]) hc dX12_escorts_2 kw_1948 mX12_isSide kM_0 clX12 rfl (by omega) (Nat.le_of_ble_eq_true rfl) (Nat.le_of_ble_eq_true rfl) ⟨Nat.le_refl _, Nat.le_refl _⟩ hf (fun v I' L' h => qX12_isSide x.2.1 n d a1 I L v I' L' h) (fun v1 I1 L1 hf => ?_)
  refine j_if_eq (tgt := 17) hc dX12_escorts_5 rfl hf (fun hf => ?_) (fun hf => ?_)
  · refine j_iconst (v := (-1 : Int32)) hc dX12_escorts_17 ci_m1 ?_
    exact j_ireturn hc dX12_escorts_18 rfl rfl hf
  · refine j_iload_n hc dX12_escorts_8 rfl ?_
    refine j_iconst (v := (0 : Int32)) hc dX12_escorts_9 ci_0 ?_
    refine j_iconst (v := (1 : Int32)) hc dX12_escorts_10 ci_1 ?_
    refine j_callSI (As := [.int a2, .int (0 : Int32), .int (1 : Int32)]) hc dX12_escorts_11 kw_1671 mX12_in  rfl (by omega) (Nat.le_of_ble_eq_true rfl) (Nat.le_of_ble_eq_true rfl) ⟨Nat.le_refl _, Nat.le_refl _⟩ hf (fun v I' L' h => qX12_in x.2.1 n d a2 (0 : Int32) (1 : Int32) I1 L1 v I' L' h) (fun v2 I2 L2 hf => ?_)
    refine j_if_ne (tgt := 19) hc dX12_escorts_14 rfl hf (fun hf => ?_) (fun hf => ?_)
    · refine j_aload_n hc dX12_escorts_19 rfl ?_
      refine j_iconst (v := (-1 : Int32)) hc dX12_escorts_20 ci_m1 ?_
      refine j_putI hc dX12_escorts_21 fpM_X12_397_0 rfl rfl hf (fun I3 hf => ?_)
      refine j_aload_n hc dX12_escorts_24 rfl ?_
      refine j_iconst (v := (0 : Int32)) hc dX12_escorts_25 ci_0 ?_
      refine j_iload_n hc dX12_escorts_26 rfl ?_
      refine j_iconst (v := (0 : Int32)) hc dX12_escorts_27 ci_0 ?_
      refine j_iconst (v := (0 : Int32)) hc dX12_escorts_28 ci_0 ?_
      refine j_callVV (t := 0) (As := [.int (0 : Int32), .int a1, .int (0 : Int32), .int (0 : Int32)]) hc dX12_escorts_29 kw_1973 mX12_tryEscorts kM_0 clX12 rfl (by omega) (Nat.le_of_ble_eq_true rfl) (Nat.le_of_ble_eq_true rfl) ⟨Nat.le_refl _, Nat.le_refl _⟩ hf (fun I' L' h => qX12_tryEscorts x.2.1 n d (0 : Int32) a1 (0 : Int32) (0 : Int32) I3 L2 I' L' h) (fun I4 L4 hf => ?_)
      refine j_iload_n hc dX12_escorts_32 rfl ?_
      refine j_if_ne (tgt := 43) hc dX12_escorts_33 rfl hf (fun hf => ?_) (fun hf => ?_)
      · refine j_aload_n hc dX12_escorts_43 rfl ?_
        refine j_getI hc dX12_escorts_44 fgM_X12_400_0 ?_
        exact j_ireturn hc dX12_escorts_47 rfl rfl hf
      · refine j_aload_n hc dX12_escorts_36 rfl ?_
        refine j_getI hc dX12_escorts_37 fgM_X12_397_0 ?_
        refine j_goto (tgt := 47) hc dX12_escorts_40 rfl ?_
        exact j_ireturn hc dX12_escorts_47 rfl rfl hf
    · refine j_iconst (v := (-1 : Int32)) hc dX12_escorts_17 ci_m1 ?_
      exact j_ireturn hc dX12_escorts_18 rfl rfl hf

set_option maxRecDepth 100000 in
theorem qX12_escorts (l : Launch) (n d : Nat) (a1 : Int32) (a2 : Int32) (I : am_I) (L : am_L) (r : Int32) (I' : am_I) (L' : am_L) (hf : fX12_escorts n d a1 a2 I L = some (r, I', L')) : am_C l yX12_escorts cX12_escorts 3 (some .int) (d + 10) [.ref 0, .int a1, .int a2] KM RM I L (some (.int r)) I' L' := by
  exact am_intro (plainFor_of_name plX12) (fun _ _ => trivial) (Nat.le_of_ble_eq_true rfl) (fun x hl hc => by subst hl; exact j_sub (tX12_escorts n d hc _ _ _ _ hf) (And.intro rfl (And.intro rfl (And.intro rfl (trivial)))))
set_option maxRecDepth 100000 in
def fX12_looseBy_b40 (n d : Nat) (k4 : Int32 → Int32 → Int32 → am_I → am_L → Option (Int32 × am_I × am_L)) (s0 : Int32) (s1 : Int32) (a1 : Int32) (a3 : Int32) (I : am_I) (L : am_L) : Option (Int32 × am_I × am_L) :=
  am_lt (s0 ||| s1) (fun v1 => am_lt (a3 + (1 : Int32)) (fun v2 => k4 a1 v1 v2 I L))

set_option maxRecDepth 100000 in
set_option maxHeartbeats 4000000 in
theorem tX12_looseBy_b40 {x : am_X} (n d : Nat) (hc : am_ok x cX12_looseBy yX12_looseBy 4 (some .int) (d + 7) 0 0) {r : Int32} {I' : am_I} {L' : am_L} (k4 : Int32 → Int32 → Int32 → am_I → am_L → Option (Int32 × am_I × am_L)) (hk4 : ∀ (a1 : Int32) (a2 : Int32) (a3 : Int32) (I : am_I) (L : am_L), k4 a1 a2 a3 I L = some (r, I', L') → am_J x (fun S => S = (some (.int r), KM, RM, I', L')) 4 [some (.ref 0), some (.int a1), some (.int a2), some (.int a3)] [] KM RM I L 0 0) (s0 : Int32) (s1 : Int32) (a1 : Int32) (a3 : Int32) (I : am_I) (L : am_L) (hf : fX12_looseBy_b40 n d k4 s0 s1 a1 a3 I L = some (r, I', L')) : am_J x (fun S => S = (some (.int r), KM, RM, I', L')) 40 [some (.ref 0), some (.int a1), none, some (.int a3)] [.int s1, .int s0] KM RM I L 0 0 := by
  unfold fX12_looseBy_b40 at hf
  refine j_ior hc dX12_looseBy_40 ?_
  refine j_istore_n hc dX12_looseBy_41 (Nat.le_of_ble_eq_true rfl) hf (fun v1 hf => ?_)
  refine j_iinc (w := (1 : Int32)) hc dX12_looseBy_42 rfl ci_1 (Nat.le_of_ble_eq_true rfl) hf (fun v2 hf => ?_)
  refine j_goto (tgt := 4) hc dX12_looseBy_45 rfl ?_
  exact j_sub (hk4 _ _ _ _ _ hf) (And.intro rfl (And.intro rfl (And.intro rfl (And.intro rfl (trivial)))))

set_option maxRecDepth 100000 in
def fX12_looseBy_b39 (n d : Nat) (k4 : Int32 → Int32 → Int32 → am_I → am_L → Option (Int32 × am_I × am_L)) (s0 : Int32) (a1 : Int32) (a3 : Int32) (I : am_I) (L : am_L) : Option (Int32 × am_I × am_L) :=
  fX12_looseBy_b40 n d k4 s0 (0 : Int32) a1 a3 I L

set_option maxRecDepth 100000 in
set_option maxHeartbeats 4000000 in
theorem tX12_looseBy_b39 {x : am_X} (n d : Nat) (hc : am_ok x cX12_looseBy yX12_looseBy 4 (some .int) (d + 7) 0 0) {r : Int32} {I' : am_I} {L' : am_L} (k4 : Int32 → Int32 → Int32 → am_I → am_L → Option (Int32 × am_I × am_L)) (hk4 : ∀ (a1 : Int32) (a2 : Int32) (a3 : Int32) (I : am_I) (L : am_L), k4 a1 a2 a3 I L = some (r, I', L') → am_J x (fun S => S = (some (.int r), KM, RM, I', L')) 4 [some (.ref 0), some (.int a1), some (.int a2), some (.int a3)] [] KM RM I L 0 0) (s0 : Int32) (a1 : Int32) (a3 : Int32) (I : am_I) (L : am_L) (hf : fX12_looseBy_b39 n d k4 s0 a1 a3 I L = some (r, I', L')) : am_J x (fun S => S = (some (.int r), KM, RM, I', L')) 39 [some (.ref 0), some (.int a1), none, some (.int a3)] [.int s0] KM RM I L 0 0 := by
  unfold fX12_looseBy_b39 at hf
  refine j_iconst (v := (0 : Int32)) hc dX12_looseBy_39 ci_0 ?_
  exact j_sub (tX12_looseBy_b40 n d hc k4 hk4 _ _ _ _ _ _ hf) (And.intro rfl (And.intro rfl (And.intro rfl (trivial))))

set_option maxRecDepth 100000 in
def fX12_looseBy_b4w (n d : Nat) (k4 : Int32 → Int32 → Int32 → am_I → am_L → Option (Int32 × am_I × am_L)) (a1 : Int32) (a2 : Int32) (a3 : Int32) (I : am_I) (L : am_L) : Option (Int32 × am_I × am_L) :=
  if (I 0 25) ≤ a3 then
    (some (a2, I, L))
    else
    (am_ck ((0 : Int32) + a3) 206 (am_lt (I 17 (((0 : Int32) + a3)).toNatClampNeg) (fun v1 => if v1 ≤ 0 then
      (fX12_looseBy_b39 n d k4 a2 a1 a3 I L)
      else
      (am_b3 (fX12_isHomeBy n d a3 a1 I L) (fun v2 I2 L2 => if v2 = 0 then
        (fX12_looseBy_b39 n d k4 a2 a1 a3 I2 L2)
        else
        (fX12_looseBy_b40 n d k4 a2 ((1 : Int32) <<< (a3 &&& 31)) a1 a3 I2 L2))))))

set_option maxRecDepth 100000 in
set_option maxHeartbeats 4000000 in
theorem tX12_looseBy_b4w {x : am_X} (n d : Nat) (hc : am_ok x cX12_looseBy yX12_looseBy 4 (some .int) (d + 7) 0 0) {r : Int32} {I' : am_I} {L' : am_L} (k4 : Int32 → Int32 → Int32 → am_I → am_L → Option (Int32 × am_I × am_L)) (hk4 : ∀ (a1 : Int32) (a2 : Int32) (a3 : Int32) (I : am_I) (L : am_L), k4 a1 a2 a3 I L = some (r, I', L') → am_J x (fun S => S = (some (.int r), KM, RM, I', L')) 4 [some (.ref 0), some (.int a1), some (.int a2), some (.int a3)] [] KM RM I L 0 0) (a1 : Int32) (a2 : Int32) (a3 : Int32) (I : am_I) (L : am_L) (hf : fX12_looseBy_b4w n d k4 a1 a2 a3 I L = some (r, I', L')) : am_J x (fun S => S = (some (.int r), KM, RM, I', L')) 4 [some (.ref 0), some (.int a1), some (.int a2), some (.int a3)] [] KM RM I L 0 0 := by
  unfold fX12_looseBy_b4w at hf
  refine j_iload_n hc dX12_looseBy_4 rfl ?_
  refine j_aload_n hc dX12_looseBy_5 rfl ?_
  refine j_getI hc dX12_looseBy_6 fgM_X12_250_0 ?_
  refine j_icmp_ge (tgt := 48) hc dX12_looseBy_9 rfl hf (fun hf => ?_) (fun hf => ?_)
  · refine j_iload_n hc dX12_looseBy_48 rfl ?_
    exact j_ireturn hc dX12_looseBy_49 rfl rfl hf
  · refine j_iload_n hc dX12_looseBy_12 rfl ?_
    refine j_aload_n hc dX12_looseBy_13 rfl ?_
    refine j_getR (u := 17) hc dX12_looseBy_14 fgM_X12_58_0 rM_0_27 ?_
    refine j_iconst (v := (0 : Int32)) hc dX12_looseBy_17 ci_0 ?_
    refine j_iload_n hc dX12_looseBy_18 rfl ?_
    refine j_iadd hc dX12_looseBy_19 ?_
    refine j_iaload (n := 206) hc dX12_looseBy_20 kM_17 hf (fun v1 hf => ?_)
    refine j_if_le (tgt := 39) hc dX12_looseBy_21 rfl hf (fun hf => ?_) (fun hf => ?_)
    · exact j_sub (tX12_looseBy_b39 n d hc k4 hk4 _ _ _ _ _ hf) (And.intro rfl (And.intro rfl (And.intro rfl (trivial))))
    · refine j_aload_n hc dX12_looseBy_24 rfl ?_
      refine j_iload_n hc dX12_looseBy_25 rfl ?_
      refine j_iload_n hc dX12_looseBy_26 rfl ?_
      refine j_callVI (t := 0) (As := [.int a3, .int a1]) hc dX12_looseBy_27 kw_1776 mX12_isHomeBy kM_0 clX12 rfl (by omega) (Nat.le_of_ble_eq_true rfl) (Nat.le_of_ble_eq_true rfl) ⟨Nat.le_refl _, Nat.le_refl _⟩ hf (fun v I' L' h => qX12_isHomeBy x.2.1 n d a3 a1 I L v I' L' h) (fun v2 I2 L2 hf => ?_)
      refine j_if_eq (tgt := 39) hc dX12_looseBy_30 rfl hf (fun hf => ?_) (fun hf => ?_)
      · exact j_sub (tX12_looseBy_b39 n d hc k4 hk4 _ _ _ _ _ hf) (And.intro rfl (And.intro rfl (And.intro rfl (trivial))))
      · refine j_iconst (v := (1 : Int32)) hc dX12_looseBy_33 ci_1 ?_
        refine j_iload_n hc dX12_looseBy_34 rfl ?_
        refine j_ishl hc dX12_looseBy_35 ?_
        refine j_goto (tgt := 40) hc dX12_looseBy_36 rfl ?_
        exact j_sub (tX12_looseBy_b40 n d hc k4 hk4 _ _ _ _ _ _ hf) (And.intro rfl (And.intro rfl (And.intro rfl (trivial))))

def fX12_looseBy_b4 (n d : Nat) : Nat → Int32 → Int32 → Int32 → am_I → am_L → Option (Int32 × am_I × am_L)
  | 0 => fun _ _ _ _ _ => none
  | m + 1 => fX12_looseBy_b4w n d  (fX12_looseBy_b4 n d m)

set_option maxRecDepth 100000 in
theorem tX12_looseBy_b4 {x : am_X} (n d : Nat) (hc : am_ok x cX12_looseBy yX12_looseBy 4 (some .int) (d + 7) 0 0) {r : Int32} {I' : am_I} {L' : am_L} (m : Nat) : ∀ (a1 : Int32) (a2 : Int32) (a3 : Int32) (I : am_I) (L : am_L) (hf : fX12_looseBy_b4 n d m a1 a2 a3 I L = some (r, I', L')), am_J x (fun S => S = (some (.int r), KM, RM, I', L')) 4 [some (.ref 0), some (.int a1), some (.int a2), some (.int a3)] [] KM RM I L 0 0 := by
  induction m with
  | zero => intro a1 a2 a3 I L hf; exact (Option.some_ne_none _ hf.symm).elim
  | succ m ih => intro a1 a2 a3 I L hf; exact tX12_looseBy_b4w n d hc (fX12_looseBy_b4 n d m) ih a1 a2 a3 I L hf

set_option maxRecDepth 100000 in
def fX12_looseBy (n d : Nat) (a1 : Int32) (I : am_I) (L : am_L) : Option (Int32 × am_I × am_L) :=
  am_lt (0 : Int32) (fun v1 => am_lt (0 : Int32) (fun v2 => fX12_looseBy_b4 n d n a1 v1 v2 I L))

set_option maxRecDepth 100000 in
set_option maxHeartbeats 4000000 in
theorem tX12_looseBy {x : am_X} (n d : Nat) (hc : am_ok x cX12_looseBy yX12_looseBy 4 (some .int) (d + 7) 0 0) {r : Int32} {I' : am_I} {L' : am_L} (a1 : Int32) (I : am_I) (L : am_L) (hf : fX12_looseBy n d a1 I L = some (r, I', L')) : am_J x (fun S => S = (some (.int r), KM, RM, I', L')) 0 [some (.ref 0), some (.int a1), none, none] [] KM RM I L 0 0 := by
  unfold fX12_looseBy at hf
  refine j_iconst (v := (0 : Int32)) hc dX12_looseBy_0 ci_0 ?_
  refine j_istore_n hc dX12_looseBy_1 (Nat.le_of_ble_eq_true rfl) hf (fun v1 hf => ?_)
  refine j_iconst (v := (0 : Int32)) hc dX12_looseBy_2 ci_0 ?_
  refine j_istore_n hc dX12_looseBy_3 (Nat.le_of_ble_eq_true rfl) hf (fun v2 hf => ?_)
  exact j_sub (tX12_looseBy_b4 n d hc n _ _ _ _ _ hf) (And.intro rfl (And.intro rfl (And.intro rfl (And.intro rfl (trivial)))))

set_option maxRecDepth 100000 in
theorem qX12_looseBy (l : Launch) (n d : Nat) (a1 : Int32) (I : am_I) (L : am_L) (r : Int32) (I' : am_I) (L' : am_L) (hf : fX12_looseBy n d a1 I L = some (r, I', L')) : am_C l yX12_looseBy cX12_looseBy 4 (some .int) (d + 7) [.ref 0, .int a1] KM RM I L (some (.int r)) I' L' := by
  exact am_intro (plainFor_of_name plX12) (fun _ _ => trivial) (Nat.le_of_ble_eq_true rfl) (fun x hl hc => by subst hl; exact j_sub (tX12_looseBy n d hc _ _ _ hf) (And.intro rfl (And.intro rfl (trivial))))
set_option maxRecDepth 100000 in
def fX12_loophole (n d : Nat) (a1 : Int32) (I : am_I) (L : am_L) : Option (Int32 × am_I × am_L) :=
  if (I 0 25) ≤ 0 then
    (some ((-1 : Int32), I, L))
    else
    (am_b3 (fX12_in n d a1 (0 : Int32) ((I 0 13) - (1 : Int32)) I L) (fun v1 I1 L1 => if v1 = 0 then
      (some ((-1 : Int32), I1, L1))
      else
      (am_b3 (fX12_looseBy n d a1 I1 L1) (fun v2 I2 L2 => some (v2, I2, L2)))))

set_option maxRecDepth 100000 in
set_option maxHeartbeats 4000000 in
theorem tX12_loophole {x : am_X} (n d : Nat) (hc : am_ok x cX12_loophole yX12_loophole 2 (some .int) (d + 8) 0 0) {r : Int32} {I' : am_I} {L' : am_L} (a1 : Int32) (I : am_I) (L : am_L) (hf : fX12_loophole n d a1 I L = some (r, I', L')) : am_J x (fun S => S = (some (.int r), KM, RM, I', L')) 0 [some (.ref 0), some (.int a1)] [] KM RM I L 0 0 := by
  unfold fX12_loophole at hf
  refine j_aload_n hc dX12_loophole_0 rfl ?_
  refine j_getI hc dX12_loophole_1 fgM_X12_250_0 ?_
  refine j_if_le (tgt := 29) hc dX12_loophole_4 rfl hf (fun hf => ?_) (fun hf => ?_)
  · refine j_iconst (v := (-1 : Int32)) hc dX12_loophole_29 ci_m1 ?_
    exact j_ireturn hc dX12_loophole_30 rfl rfl hf
  · refine j_iload_n hc dX12_loophole_7 rfl ?_
    refine j_iconst (v := (0 : Int32)) hc dX12_loophole_8 ci_0 ?_
    refine j_aload_n hc dX12_loophole_9 rfl ?_
    refine j_getI hc dX12_loophole_10 fgM_X12_272_0 ?_
    refine j_iconst (v := (1 : Int32)) hc dX12_loophole_13 ci_1 ?_
    refine j_isub hc dX12_loophole_14 ?_
    refine j_callSI (As := [.int a1, .int (0 : Int32), .int ((I 0 13) - (1 : Int32))]) hc dX12_loophole_15 kw_1671 mX12_in  rfl (by omega) (Nat.le_of_ble_eq_true rfl) (Nat.le_of_ble_eq_true rfl) ⟨Nat.le_refl _, Nat.le_refl _⟩ hf (fun v I' L' h => qX12_in x.2.1 n d a1 (0 : Int32) ((I 0 13) - (1 : Int32)) I L v I' L' h) (fun v1 I1 L1 hf => ?_)
    refine j_if_eq (tgt := 29) hc dX12_loophole_18 rfl hf (fun hf => ?_) (fun hf => ?_)
    · refine j_iconst (v := (-1 : Int32)) hc dX12_loophole_29 ci_m1 ?_
      exact j_ireturn hc dX12_loophole_30 rfl rfl hf
    · refine j_aload_n hc dX12_loophole_21 rfl ?_
      refine j_iload_n hc dX12_loophole_22 rfl ?_
      refine j_callVI (t := 0) (As := [.int a1]) hc dX12_loophole_23 kw_1990 mX12_looseBy kM_0 clX12 rfl (by omega) (Nat.le_of_ble_eq_true rfl) (Nat.le_of_ble_eq_true rfl) ⟨Nat.le_refl _, Nat.le_refl _⟩ hf (fun v I' L' h => qX12_looseBy x.2.1 n d a1 I1 L1 v I' L' h) (fun v2 I2 L2 hf => ?_)
      refine j_goto (tgt := 30) hc dX12_loophole_26 rfl ?_
      exact j_ireturn hc dX12_loophole_30 rfl rfl hf

set_option maxRecDepth 100000 in
theorem qX12_loophole (l : Launch) (n d : Nat) (a1 : Int32) (I : am_I) (L : am_L) (r : Int32) (I' : am_I) (L' : am_L) (hf : fX12_loophole n d a1 I L = some (r, I', L')) : am_C l yX12_loophole cX12_loophole 2 (some .int) (d + 8) [.ref 0, .int a1] KM RM I L (some (.int r)) I' L' := by
  exact am_intro (plainFor_of_name plX12) (fun _ _ => trivial) (Nat.le_of_ble_eq_true rfl) (fun x hl hc => by subst hl; exact j_sub (tX12_loophole n d hc _ _ _ hf) (And.intro rfl (And.intro rfl (trivial))))
set_option maxRecDepth 100000 in
def fX12_closed_b107 (n d : Nat) (k4 : Int32 → Int32 → am_I → am_L → Option (Int32 × am_I × am_L)) (s0 : Int32) (a2 : Int32) (I : am_I) (L : am_L) : Option (Int32 × am_I × am_L) :=
  am_lt s0 (fun v1 => am_lt (a2 + (1 : Int32)) (fun v2 => k4 v1 v2 I L))

set_option maxRecDepth 100000 in
set_option maxHeartbeats 4000000 in
theorem tX12_closed_b107 {x : am_X} (n d : Nat) (hc : am_ok x cX12_closed yX12_closed 5 (some .int) (d + 8) 0 0) {r : Int32} {I' : am_I} {L' : am_L} (k4 : Int32 → Int32 → am_I → am_L → Option (Int32 × am_I × am_L)) (hk4 : ∀ (a1 : Int32) (a2 : Int32) (I : am_I) (L : am_L), k4 a1 a2 I L = some (r, I', L') → am_J x (fun S => S = (some (.int r), KM, RM, I', L')) 4 [some (.ref 0), some (.int a1), some (.int a2), none, none] [] KM RM I L 0 0) (s0 : Int32) (a2 : Int32) (I : am_I) (L : am_L) (hf : fX12_closed_b107 n d k4 s0 a2 I L = some (r, I', L')) : am_J x (fun S => S = (some (.int r), KM, RM, I', L')) 107 [some (.ref 0), none, some (.int a2), none, none] [.int s0] KM RM I L 0 0 := by
  unfold fX12_closed_b107 at hf
  refine j_istore_n hc dX12_closed_107 (Nat.le_of_ble_eq_true rfl) hf (fun v1 hf => ?_)
  refine j_iinc (w := (1 : Int32)) hc dX12_closed_108 rfl ci_1 (Nat.le_of_ble_eq_true rfl) hf (fun v2 hf => ?_)
  refine j_goto (tgt := 4) hc dX12_closed_111 rfl ?_
  exact j_sub (hk4 _ _ _ _ hf) (And.intro rfl (And.intro rfl (And.intro rfl (trivial))))

set_option maxRecDepth 100000 in
def fX12_closed_b106 (n d : Nat) (k4 : Int32 → Int32 → am_I → am_L → Option (Int32 × am_I × am_L)) (a1 : Int32) (a2 : Int32) (I : am_I) (L : am_L) : Option (Int32 × am_I × am_L) :=
  fX12_closed_b107 n d k4 a1 a2 I L

set_option maxRecDepth 100000 in
set_option maxHeartbeats 4000000 in
theorem tX12_closed_b106 {x : am_X} (n d : Nat) (hc : am_ok x cX12_closed yX12_closed 5 (some .int) (d + 8) 0 0) {r : Int32} {I' : am_I} {L' : am_L} (k4 : Int32 → Int32 → am_I → am_L → Option (Int32 × am_I × am_L)) (hk4 : ∀ (a1 : Int32) (a2 : Int32) (I : am_I) (L : am_L), k4 a1 a2 I L = some (r, I', L') → am_J x (fun S => S = (some (.int r), KM, RM, I', L')) 4 [some (.ref 0), some (.int a1), some (.int a2), none, none] [] KM RM I L 0 0) (a1 : Int32) (a2 : Int32) (I : am_I) (L : am_L) (hf : fX12_closed_b106 n d k4 a1 a2 I L = some (r, I', L')) : am_J x (fun S => S = (some (.int r), KM, RM, I', L')) 106 [some (.ref 0), some (.int a1), some (.int a2), none, none] [] KM RM I L 0 0 := by
  unfold fX12_closed_b106 at hf
  refine j_iload_n hc dX12_closed_106 rfl ?_
  exact j_sub (tX12_closed_b107 n d hc k4 hk4 _ _ _ _ hf) (And.intro rfl (And.intro rfl (trivial)))

set_option maxRecDepth 100000 in
def fX12_closed_b91 (n d : Nat) (k4 : Int32 → Int32 → am_I → am_L → Option (Int32 × am_I × am_L)) (s0 : Int32) (a1 : Int32) (a2 : Int32) (a3 : Int32) (I : am_I) (L : am_L) : Option (Int32 × am_I × am_L) :=
  am_lt s0 (fun v1 => if v1 = 0 then
    (fX12_closed_b106 n d k4 a1 a2 I L)
    else
    (if a3 = 0 then
      (fX12_closed_b107 n d k4 a2 a2 I L)
      else
      (fX12_closed_b106 n d k4 a1 a2 I L)))

set_option maxRecDepth 100000 in
set_option maxHeartbeats 4000000 in
theorem tX12_closed_b91 {x : am_X} (n d : Nat) (hc : am_ok x cX12_closed yX12_closed 5 (some .int) (d + 8) 0 0) {r : Int32} {I' : am_I} {L' : am_L} (k4 : Int32 → Int32 → am_I → am_L → Option (Int32 × am_I × am_L)) (hk4 : ∀ (a1 : Int32) (a2 : Int32) (I : am_I) (L : am_L), k4 a1 a2 I L = some (r, I', L') → am_J x (fun S => S = (some (.int r), KM, RM, I', L')) 4 [some (.ref 0), some (.int a1), some (.int a2), none, none] [] KM RM I L 0 0) (s0 : Int32) (a1 : Int32) (a2 : Int32) (a3 : Int32) (I : am_I) (L : am_L) (hf : fX12_closed_b91 n d k4 s0 a1 a2 a3 I L = some (r, I', L')) : am_J x (fun S => S = (some (.int r), KM, RM, I', L')) 91 [some (.ref 0), some (.int a1), some (.int a2), some (.int a3), none] [.int s0] KM RM I L 0 0 := by
  unfold fX12_closed_b91 at hf
  refine j_istore hc dX12_closed_91 (Nat.le_of_ble_eq_true rfl) hf (fun v1 hf => ?_)
  refine j_iload hc dX12_closed_93 rfl ?_
  refine j_if_eq (tgt := 106) hc dX12_closed_95 rfl hf (fun hf => ?_) (fun hf => ?_)
  · exact j_sub (tX12_closed_b106 n d hc k4 hk4 _ _ _ _ hf) (And.intro rfl (And.intro rfl (And.intro rfl (trivial))))
  · refine j_iload_n hc dX12_closed_98 rfl ?_
    refine j_if_ne (tgt := 106) hc dX12_closed_99 rfl hf (fun hf => ?_) (fun hf => ?_)
    · exact j_sub (tX12_closed_b106 n d hc k4 hk4 _ _ _ _ hf) (And.intro rfl (And.intro rfl (And.intro rfl (trivial))))
    · refine j_iload_n hc dX12_closed_102 rfl ?_
      refine j_goto (tgt := 107) hc dX12_closed_103 rfl ?_
      exact j_sub (tX12_closed_b107 n d hc k4 hk4 _ _ _ _ hf) (And.intro rfl (And.intro rfl (trivial)))

set_option maxRecDepth 100000 in
def fX12_closed_b86 (n d : Nat) (k4 : Int32 → Int32 → am_I → am_L → Option (Int32 × am_I × am_L)) (a1 : Int32) (a2 : Int32) (a3 : Int32) (I : am_I) (L : am_L) : Option (Int32 × am_I × am_L) :=
  fX12_closed_b91 n d k4 (1 : Int32) a1 a2 a3 I L

set_option maxRecDepth 100000 in
set_option maxHeartbeats 4000000 in
theorem tX12_closed_b86 {x : am_X} (n d : Nat) (hc : am_ok x cX12_closed yX12_closed 5 (some .int) (d + 8) 0 0) {r : Int32} {I' : am_I} {L' : am_L} (k4 : Int32 → Int32 → am_I → am_L → Option (Int32 × am_I × am_L)) (hk4 : ∀ (a1 : Int32) (a2 : Int32) (I : am_I) (L : am_L), k4 a1 a2 I L = some (r, I', L') → am_J x (fun S => S = (some (.int r), KM, RM, I', L')) 4 [some (.ref 0), some (.int a1), some (.int a2), none, none] [] KM RM I L 0 0) (a1 : Int32) (a2 : Int32) (a3 : Int32) (I : am_I) (L : am_L) (hf : fX12_closed_b86 n d k4 a1 a2 a3 I L = some (r, I', L')) : am_J x (fun S => S = (some (.int r), KM, RM, I', L')) 86 [some (.ref 0), some (.int a1), some (.int a2), some (.int a3), none] [] KM RM I L 0 0 := by
  unfold fX12_closed_b86 at hf
  refine j_iconst (v := (1 : Int32)) hc dX12_closed_86 ci_1 ?_
  refine j_goto (tgt := 91) hc dX12_closed_87 rfl ?_
  exact j_sub (tX12_closed_b91 n d hc k4 hk4 _ _ _ _ _ _ hf) (And.intro rfl (And.intro rfl (And.intro rfl (And.intro rfl (trivial)))))

set_option maxRecDepth 100000 in
def fX12_closed_b62 (n d : Nat) (k4 : Int32 → Int32 → am_I → am_L → Option (Int32 × am_I × am_L)) (k33 : Int32 → Int32 → Int32 → Int32 → am_I → am_L → Option (Int32 × am_I × am_L)) (s0 : Int32) (s1 : Int32) (a1 : Int32) (a2 : Int32) (a4 : Int32) (I : am_I) (L : am_L) : Option (Int32 × am_I × am_L) :=
  am_lt (s0 &&& s1) (fun v1 => am_lt (a4 + (1 : Int32)) (fun v2 => k33 a1 a2 v1 v2 I L))

set_option maxRecDepth 100000 in
set_option maxHeartbeats 4000000 in
theorem tX12_closed_b62 {x : am_X} (n d : Nat) (hc : am_ok x cX12_closed yX12_closed 5 (some .int) (d + 8) 0 0) {r : Int32} {I' : am_I} {L' : am_L} (k4 : Int32 → Int32 → am_I → am_L → Option (Int32 × am_I × am_L)) (k33 : Int32 → Int32 → Int32 → Int32 → am_I → am_L → Option (Int32 × am_I × am_L)) (hk4 : ∀ (a1 : Int32) (a2 : Int32) (I : am_I) (L : am_L), k4 a1 a2 I L = some (r, I', L') → am_J x (fun S => S = (some (.int r), KM, RM, I', L')) 4 [some (.ref 0), some (.int a1), some (.int a2), none, none] [] KM RM I L 0 0) (hk33 : ∀ (a1 : Int32) (a2 : Int32) (a3 : Int32) (a4 : Int32) (I : am_I) (L : am_L), k33 a1 a2 a3 a4 I L = some (r, I', L') → am_J x (fun S => S = (some (.int r), KM, RM, I', L')) 33 [some (.ref 0), some (.int a1), some (.int a2), some (.int a3), some (.int a4)] [] KM RM I L 0 0) (s0 : Int32) (s1 : Int32) (a1 : Int32) (a2 : Int32) (a4 : Int32) (I : am_I) (L : am_L) (hf : fX12_closed_b62 n d k4 k33 s0 s1 a1 a2 a4 I L = some (r, I', L')) : am_J x (fun S => S = (some (.int r), KM, RM, I', L')) 62 [some (.ref 0), some (.int a1), some (.int a2), none, some (.int a4)] [.int s1, .int s0] KM RM I L 0 0 := by
  unfold fX12_closed_b62 at hf
  refine j_iand hc dX12_closed_62 ?_
  refine j_istore_n hc dX12_closed_63 (Nat.le_of_ble_eq_true rfl) hf (fun v1 hf => ?_)
  refine j_iinc (w := (1 : Int32)) hc dX12_closed_64 rfl ci_1 (Nat.le_of_ble_eq_true rfl) hf (fun v2 hf => ?_)
  refine j_goto (tgt := 33) hc dX12_closed_67 rfl ?_
  exact j_sub (hk33 _ _ _ _ _ _ hf) (And.intro rfl (And.intro rfl (And.intro rfl (And.intro rfl (And.intro rfl (trivial))))))

set_option maxRecDepth 100000 in
def fX12_closed_b33w (n d : Nat) (k4 : Int32 → Int32 → am_I → am_L → Option (Int32 × am_I × am_L)) (k33 : Int32 → Int32 → Int32 → Int32 → am_I → am_L → Option (Int32 × am_I × am_L)) (a1 : Int32) (a2 : Int32) (a3 : Int32) (a4 : Int32) (I : am_I) (L : am_L) : Option (Int32 × am_I × am_L) :=
  if (I 0 13) ≤ a4 then
    (if a1 = (-1 : Int32) then
      (fX12_closed_b86 n d k4 a1 a2 a3 I L)
      else
      (am_b3 (fJ6_bitCount_0f7a4 n d a2 I L) (fun v1 I1 L1 => am_b3 (fJ6_bitCount_0f7a4 n d a1 I1 L1) (fun v2 I2 L2 => if v2 ≤ v1 then
        (fX12_closed_b91 n d k4 (0 : Int32) a1 a2 a3 I2 L2)
        else
        (fX12_closed_b86 n d k4 a1 a2 a3 I2 L2)))))
    else
    (am_b3 (fX12_has n d a2 a4 I L) (fun v3 I3 L3 => if v3 = 0 then
      (fX12_closed_b62 n d k4 k33 a3 (-1 : Int32) a1 a2 a4 I3 L3)
      else
      (am_b3 (fX12_looseBy n d a4 I3 L3) (fun v4 I4 L4 => fX12_closed_b62 n d k4 k33 a3 v4 a1 a2 a4 I4 L4))))

set_option maxRecDepth 100000 in
set_option maxHeartbeats 4000000 in
theorem tX12_closed_b33w {x : am_X} (n d : Nat) (hc : am_ok x cX12_closed yX12_closed 5 (some .int) (d + 8) 0 0) {r : Int32} {I' : am_I} {L' : am_L} (k4 : Int32 → Int32 → am_I → am_L → Option (Int32 × am_I × am_L)) (k33 : Int32 → Int32 → Int32 → Int32 → am_I → am_L → Option (Int32 × am_I × am_L)) (hk4 : ∀ (a1 : Int32) (a2 : Int32) (I : am_I) (L : am_L), k4 a1 a2 I L = some (r, I', L') → am_J x (fun S => S = (some (.int r), KM, RM, I', L')) 4 [some (.ref 0), some (.int a1), some (.int a2), none, none] [] KM RM I L 0 0) (hk33 : ∀ (a1 : Int32) (a2 : Int32) (a3 : Int32) (a4 : Int32) (I : am_I) (L : am_L), k33 a1 a2 a3 a4 I L = some (r, I', L') → am_J x (fun S => S = (some (.int r), KM, RM, I', L')) 33 [some (.ref 0), some (.int a1), some (.int a2), some (.int a3), some (.int a4)] [] KM RM I L 0 0) (a1 : Int32) (a2 : Int32) (a3 : Int32) (a4 : Int32) (I : am_I) (L : am_L) (hf : fX12_closed_b33w n d k4 k33 a1 a2 a3 a4 I L = some (r, I', L')) : am_J x (fun S => S = (some (.int r), KM, RM, I', L')) 33 [some (.ref 0), some (.int a1), some (.int a2), some (.int a3), some (.int a4)] [] KM RM I L 0 0 := by
  unfold fX12_closed_b33w at hf
  refine j_iload hc dX12_closed_33 rfl ?_
  refine j_aload_n hc dX12_closed_35 rfl ?_
  refine j_getI hc dX12_closed_36 fgM_X12_272_0 ?_
  refine j_icmp_ge (tgt := 70) hc dX12_closed_39 rfl hf (fun hf => ?_) (fun hf => ?_)
  · refine j_iload_n hc dX12_closed_70 rfl ?_
    refine j_iconst (v := (-1 : Int32)) hc dX12_closed_71 ci_m1 ?_
    refine j_icmp_eq (tgt := 86) hc dX12_closed_72 rfl hf (fun hf => ?_) (fun hf => ?_)
    · exact j_sub (tX12_closed_b86 n d hc k4 hk4 _ _ _ _ _ hf) (And.intro rfl (And.intro rfl (And.intro rfl (And.intro rfl (trivial)))))
    · refine j_iload_n hc dX12_closed_75 rfl ?_
      refine j_callSI (As := [.int a2]) hc dX12_closed_76 kw_1977 mJ6_bitCount_0f7a4  rfl (by omega) (Nat.le_of_ble_eq_true rfl) (Nat.le_of_ble_eq_true rfl) ⟨Nat.le_refl _, Nat.le_refl _⟩ hf (fun v I' L' h => qJ6_bitCount_0f7a4 x.2.1 n d a2 I L v I' L' h) (fun v1 I1 L1 hf => ?_)
      refine j_iload_n hc dX12_closed_79 rfl ?_
      refine j_callSI (As := [.int a1]) hc dX12_closed_80 kw_1977 mJ6_bitCount_0f7a4  rfl (by omega) (Nat.le_of_ble_eq_true rfl) (Nat.le_of_ble_eq_true rfl) ⟨Nat.le_refl _, Nat.le_refl _⟩ hf (fun v I' L' h => qJ6_bitCount_0f7a4 x.2.1 n d a1 I1 L1 v I' L' h) (fun v2 I2 L2 hf => ?_)
      refine j_icmp_ge (tgt := 90) hc dX12_closed_83 rfl hf (fun hf => ?_) (fun hf => ?_)
      · refine j_iconst (v := (0 : Int32)) hc dX12_closed_90 ci_0 ?_
        exact j_sub (tX12_closed_b91 n d hc k4 hk4 _ _ _ _ _ _ hf) (And.intro rfl (And.intro rfl (And.intro rfl (And.intro rfl (trivial)))))
      · exact j_sub (tX12_closed_b86 n d hc k4 hk4 _ _ _ _ _ hf) (And.intro rfl (And.intro rfl (And.intro rfl (And.intro rfl (trivial)))))
  · refine j_iload_n hc dX12_closed_42 rfl ?_
    refine j_iload_n hc dX12_closed_43 rfl ?_
    refine j_iload hc dX12_closed_44 rfl ?_
    refine j_callSI (As := [.int a2, .int a4]) hc dX12_closed_46 kw_1651 mX12_has  rfl (by omega) (Nat.le_of_ble_eq_true rfl) (Nat.le_of_ble_eq_true rfl) ⟨Nat.le_refl _, Nat.le_refl _⟩ hf (fun v I' L' h => qX12_has x.2.1 n d a2 a4 I L v I' L' h) (fun v3 I3 L3 hf => ?_)
    refine j_if_eq (tgt := 61) hc dX12_closed_49 rfl hf (fun hf => ?_) (fun hf => ?_)
    · refine j_iconst (v := (-1 : Int32)) hc dX12_closed_61 ci_m1 ?_
      exact j_sub (tX12_closed_b62 n d hc k4 k33 hk4 hk33 _ _ _ _ _ _ _ hf) (And.intro rfl (And.intro rfl (And.intro rfl (And.intro rfl (trivial)))))
    · refine j_aload_n hc dX12_closed_52 rfl ?_
      refine j_iload hc dX12_closed_53 rfl ?_
      refine j_callVI (t := 0) (As := [.int a4]) hc dX12_closed_55 kw_1990 mX12_looseBy kM_0 clX12 rfl (by omega) (Nat.le_of_ble_eq_true rfl) (Nat.le_of_ble_eq_true rfl) ⟨Nat.le_refl _, Nat.le_refl _⟩ hf (fun v I' L' h => qX12_looseBy x.2.1 n d a4 I3 L3 v I' L' h) (fun v4 I4 L4 hf => ?_)
      refine j_goto (tgt := 62) hc dX12_closed_58 rfl ?_
      exact j_sub (tX12_closed_b62 n d hc k4 k33 hk4 hk33 _ _ _ _ _ _ _ hf) (And.intro rfl (And.intro rfl (And.intro rfl (And.intro rfl (trivial)))))

def fX12_closed_b33 (n d : Nat) (k4 : Int32 → Int32 → am_I → am_L → Option (Int32 × am_I × am_L)) : Nat → Int32 → Int32 → Int32 → Int32 → am_I → am_L → Option (Int32 × am_I × am_L)
  | 0 => fun _ _ _ _ _ _ => none
  | m + 1 => fX12_closed_b33w n d  k4 (fX12_closed_b33 n d k4 m)

set_option maxRecDepth 100000 in
theorem tX12_closed_b33 {x : am_X} (n d : Nat) (hc : am_ok x cX12_closed yX12_closed 5 (some .int) (d + 8) 0 0) {r : Int32} {I' : am_I} {L' : am_L} (k4 : Int32 → Int32 → am_I → am_L → Option (Int32 × am_I × am_L)) (hk4 : ∀ (a1 : Int32) (a2 : Int32) (I : am_I) (L : am_L), k4 a1 a2 I L = some (r, I', L') → am_J x (fun S => S = (some (.int r), KM, RM, I', L')) 4 [some (.ref 0), some (.int a1), some (.int a2), none, none] [] KM RM I L 0 0) (m : Nat) : ∀ (a1 : Int32) (a2 : Int32) (a3 : Int32) (a4 : Int32) (I : am_I) (L : am_L) (hf : fX12_closed_b33 n d k4 m a1 a2 a3 a4 I L = some (r, I', L')), am_J x (fun S => S = (some (.int r), KM, RM, I', L')) 33 [some (.ref 0), some (.int a1), some (.int a2), some (.int a3), some (.int a4)] [] KM RM I L 0 0 := by
  induction m with
  | zero => intro a1 a2 a3 a4 I L hf; exact (Option.some_ne_none _ hf.symm).elim
  | succ m ih => intro a1 a2 a3 a4 I L hf; exact tX12_closed_b33w n d hc k4 (fX12_closed_b33 n d k4 m) hk4 ih a1 a2 a3 a4 I L hf

set_option maxRecDepth 100000 in
def fX12_closed_b4w (n d : Nat) (k4 : Int32 → Int32 → am_I → am_L → Option (Int32 × am_I × am_L)) (a1 : Int32) (a2 : Int32) (I : am_I) (L : am_L) : Option (Int32 × am_I × am_L) :=
  if (I 0 25) ≤ 0 then
    (some (a1, I, L))
    else
    (if ((1 : Int32) <<< ((I 0 13) &&& 31)) ≤ a2 then
      (some (a1, I, L))
      else
      (am_lt (((1 : Int32) <<< ((I 0 25) &&& 31)) - (1 : Int32)) (fun v1 => am_lt (0 : Int32) (fun v2 => fX12_closed_b33 n d k4 n a1 a2 v1 v2 I L))))

set_option maxRecDepth 100000 in
set_option maxHeartbeats 4000000 in
theorem tX12_closed_b4w {x : am_X} (n d : Nat) (hc : am_ok x cX12_closed yX12_closed 5 (some .int) (d + 8) 0 0) {r : Int32} {I' : am_I} {L' : am_L} (k4 : Int32 → Int32 → am_I → am_L → Option (Int32 × am_I × am_L)) (hk4 : ∀ (a1 : Int32) (a2 : Int32) (I : am_I) (L : am_L), k4 a1 a2 I L = some (r, I', L') → am_J x (fun S => S = (some (.int r), KM, RM, I', L')) 4 [some (.ref 0), some (.int a1), some (.int a2), none, none] [] KM RM I L 0 0) (a1 : Int32) (a2 : Int32) (I : am_I) (L : am_L) (hf : fX12_closed_b4w n d k4 a1 a2 I L = some (r, I', L')) : am_J x (fun S => S = (some (.int r), KM, RM, I', L')) 4 [some (.ref 0), some (.int a1), some (.int a2), none, none] [] KM RM I L 0 0 := by
  unfold fX12_closed_b4w at hf
  refine j_aload_n hc dX12_closed_4 rfl ?_
  refine j_getI hc dX12_closed_5 fgM_X12_250_0 ?_
  refine j_if_le (tgt := 114) hc dX12_closed_8 rfl hf (fun hf => ?_) (fun hf => ?_)
  · refine j_iload_n hc dX12_closed_114 rfl ?_
    exact j_ireturn hc dX12_closed_115 rfl rfl hf
  · refine j_iload_n hc dX12_closed_11 rfl ?_
    refine j_iconst (v := (1 : Int32)) hc dX12_closed_12 ci_1 ?_
    refine j_aload_n hc dX12_closed_13 rfl ?_
    refine j_getI hc dX12_closed_14 fgM_X12_272_0 ?_
    refine j_ishl hc dX12_closed_17 ?_
    refine j_icmp_ge (tgt := 114) hc dX12_closed_18 rfl hf (fun hf => ?_) (fun hf => ?_)
    · refine j_iload_n hc dX12_closed_114 rfl ?_
      exact j_ireturn hc dX12_closed_115 rfl rfl hf
    · refine j_iconst (v := (1 : Int32)) hc dX12_closed_21 ci_1 ?_
      refine j_aload_n hc dX12_closed_22 rfl ?_
      refine j_getI hc dX12_closed_23 fgM_X12_250_0 ?_
      refine j_ishl hc dX12_closed_26 ?_
      refine j_iconst (v := (1 : Int32)) hc dX12_closed_27 ci_1 ?_
      refine j_isub hc dX12_closed_28 ?_
      refine j_istore_n hc dX12_closed_29 (Nat.le_of_ble_eq_true rfl) hf (fun v1 hf => ?_)
      refine j_iconst (v := (0 : Int32)) hc dX12_closed_30 ci_0 ?_
      refine j_istore hc dX12_closed_31 (Nat.le_of_ble_eq_true rfl) hf (fun v2 hf => ?_)
      exact j_sub (tX12_closed_b33 n d hc k4 hk4 n _ _ _ _ _ _ hf) (And.intro rfl (And.intro rfl (And.intro rfl (And.intro rfl (And.intro rfl (trivial))))))

def fX12_closed_b4 (n d : Nat) : Nat → Int32 → Int32 → am_I → am_L → Option (Int32 × am_I × am_L)
  | 0 => fun _ _ _ _ => none
  | m + 1 => fX12_closed_b4w n d  (fX12_closed_b4 n d m)

set_option maxRecDepth 100000 in
theorem tX12_closed_b4 {x : am_X} (n d : Nat) (hc : am_ok x cX12_closed yX12_closed 5 (some .int) (d + 8) 0 0) {r : Int32} {I' : am_I} {L' : am_L} (m : Nat) : ∀ (a1 : Int32) (a2 : Int32) (I : am_I) (L : am_L) (hf : fX12_closed_b4 n d m a1 a2 I L = some (r, I', L')), am_J x (fun S => S = (some (.int r), KM, RM, I', L')) 4 [some (.ref 0), some (.int a1), some (.int a2), none, none] [] KM RM I L 0 0 := by
  induction m with
  | zero => intro a1 a2 I L hf; exact (Option.some_ne_none _ hf.symm).elim
  | succ m ih => intro a1 a2 I L hf; exact tX12_closed_b4w n d hc (fX12_closed_b4 n d m) ih a1 a2 I L hf

set_option maxRecDepth 100000 in
def fX12_closed (n d : Nat) (I : am_I) (L : am_L) : Option (Int32 × am_I × am_L) :=
  am_lt (-1 : Int32) (fun v1 => am_lt (1 : Int32) (fun v2 => fX12_closed_b4 n d n v1 v2 I L))

set_option maxRecDepth 100000 in
set_option maxHeartbeats 4000000 in
theorem tX12_closed {x : am_X} (n d : Nat) (hc : am_ok x cX12_closed yX12_closed 5 (some .int) (d + 8) 0 0) {r : Int32} {I' : am_I} {L' : am_L} (I : am_I) (L : am_L) (hf : fX12_closed n d I L = some (r, I', L')) : am_J x (fun S => S = (some (.int r), KM, RM, I', L')) 0 [some (.ref 0), none, none, none, none] [] KM RM I L 0 0 := by
  unfold fX12_closed at hf
  refine j_iconst (v := (-1 : Int32)) hc dX12_closed_0 ci_m1 ?_
  refine j_istore_n hc dX12_closed_1 (Nat.le_of_ble_eq_true rfl) hf (fun v1 hf => ?_)
  refine j_iconst (v := (1 : Int32)) hc dX12_closed_2 ci_1 ?_
  refine j_istore_n hc dX12_closed_3 (Nat.le_of_ble_eq_true rfl) hf (fun v2 hf => ?_)
  exact j_sub (tX12_closed_b4 n d hc n _ _ _ _ hf) (And.intro rfl (And.intro rfl (And.intro rfl (trivial))))

set_option maxRecDepth 100000 in
theorem qX12_closed (l : Launch) (n d : Nat) (I : am_I) (L : am_L) (r : Int32) (I' : am_I) (L' : am_L) (hf : fX12_closed n d I L = some (r, I', L')) : am_C l yX12_closed cX12_closed 5 (some .int) (d + 8) [.ref 0] KM RM I L (some (.int r)) I' L' := by
  exact am_intro (plainFor_of_name plX12) (fun _ _ => trivial) (Nat.le_of_ble_eq_true rfl) (fun x hl hc => by subst hl; exact j_sub (tX12_closed n d hc  _ _ hf) (And.intro rfl (trivial)))
set_option maxRecDepth 100000 in
def fX12_reads_b39 (n d : Nat) (k14 : Int32 → Int32 → Int32 → am_I → am_L → Option (Int32 × am_I × am_L)) (s0 : Int32) (s1 : Int32) (a1 : Int32) (a3 : Int32) (I : am_I) (L : am_L) : Option (Int32 × am_I × am_L) :=
  am_lt (s0 ||| s1) (fun v1 => am_lt (a3 + (1 : Int32)) (fun v2 => k14 a1 v1 v2 I L))

set_option maxRecDepth 100000 in
set_option maxHeartbeats 4000000 in
theorem tX12_reads_b39 {x : am_X} (n d : Nat) (hc : am_ok x cX12_reads yX12_reads 4 (some .int) (d + 7) 0 0) {r : Int32} {I' : am_I} {L' : am_L} (k14 : Int32 → Int32 → Int32 → am_I → am_L → Option (Int32 × am_I × am_L)) (hk14 : ∀ (a1 : Int32) (a2 : Int32) (a3 : Int32) (I : am_I) (L : am_L), k14 a1 a2 a3 I L = some (r, I', L') → am_J x (fun S => S = (some (.int r), KM, RM, I', L')) 14 [some (.ref 0), some (.int a1), some (.int a2), some (.int a3)] [] KM RM I L 0 0) (s0 : Int32) (s1 : Int32) (a1 : Int32) (a3 : Int32) (I : am_I) (L : am_L) (hf : fX12_reads_b39 n d k14 s0 s1 a1 a3 I L = some (r, I', L')) : am_J x (fun S => S = (some (.int r), KM, RM, I', L')) 39 [some (.ref 0), some (.int a1), none, some (.int a3)] [.int s1, .int s0] KM RM I L 0 0 := by
  unfold fX12_reads_b39 at hf
  refine j_ior hc dX12_reads_39 ?_
  refine j_istore_n hc dX12_reads_40 (Nat.le_of_ble_eq_true rfl) hf (fun v1 hf => ?_)
  refine j_iinc (w := (1 : Int32)) hc dX12_reads_41 rfl ci_1 (Nat.le_of_ble_eq_true rfl) hf (fun v2 hf => ?_)
  refine j_goto (tgt := 14) hc dX12_reads_44 rfl ?_
  exact j_sub (hk14 _ _ _ _ _ hf) (And.intro rfl (And.intro rfl (And.intro rfl (And.intro rfl (trivial)))))

set_option maxRecDepth 100000 in
def fX12_reads_b14w (n d : Nat) (k14 : Int32 → Int32 → Int32 → am_I → am_L → Option (Int32 × am_I × am_L)) (a1 : Int32) (a2 : Int32) (a3 : Int32) (I : am_I) (L : am_L) : Option (Int32 × am_I × am_L) :=
  if (I 0 13) ≤ a3 then
    (some (a2, I, L))
    else
    (am_b3 (fX12_isHomeBy n d a1 a3 I L) (fun v1 I1 L1 => if v1 = 0 then
      (fX12_reads_b39 n d k14 a2 (0 : Int32) a1 a3 I1 L1)
      else
      (fX12_reads_b39 n d k14 a2 ((1 : Int32) <<< (a3 &&& 31)) a1 a3 I1 L1)))

set_option maxRecDepth 100000 in
set_option maxHeartbeats 4000000 in
theorem tX12_reads_b14w {x : am_X} (n d : Nat) (hc : am_ok x cX12_reads yX12_reads 4 (some .int) (d + 7) 0 0) {r : Int32} {I' : am_I} {L' : am_L} (k14 : Int32 → Int32 → Int32 → am_I → am_L → Option (Int32 × am_I × am_L)) (hk14 : ∀ (a1 : Int32) (a2 : Int32) (a3 : Int32) (I : am_I) (L : am_L), k14 a1 a2 a3 I L = some (r, I', L') → am_J x (fun S => S = (some (.int r), KM, RM, I', L')) 14 [some (.ref 0), some (.int a1), some (.int a2), some (.int a3)] [] KM RM I L 0 0) (a1 : Int32) (a2 : Int32) (a3 : Int32) (I : am_I) (L : am_L) (hf : fX12_reads_b14w n d k14 a1 a2 a3 I L = some (r, I', L')) : am_J x (fun S => S = (some (.int r), KM, RM, I', L')) 14 [some (.ref 0), some (.int a1), some (.int a2), some (.int a3)] [] KM RM I L 0 0 := by
  unfold fX12_reads_b14w at hf
  refine j_iload_n hc dX12_reads_14 rfl ?_
  refine j_aload_n hc dX12_reads_15 rfl ?_
  refine j_getI hc dX12_reads_16 fgM_X12_272_0 ?_
  refine j_icmp_ge (tgt := 47) hc dX12_reads_19 rfl hf (fun hf => ?_) (fun hf => ?_)
  · refine j_iload_n hc dX12_reads_47 rfl ?_
    exact j_ireturn hc dX12_reads_48 rfl rfl hf
  · refine j_iload_n hc dX12_reads_22 rfl ?_
    refine j_aload_n hc dX12_reads_23 rfl ?_
    refine j_iload_n hc dX12_reads_24 rfl ?_
    refine j_iload_n hc dX12_reads_25 rfl ?_
    refine j_callVI (t := 0) (As := [.int a1, .int a3]) hc dX12_reads_26 kw_1776 mX12_isHomeBy kM_0 clX12 rfl (by omega) (Nat.le_of_ble_eq_true rfl) (Nat.le_of_ble_eq_true rfl) ⟨Nat.le_refl _, Nat.le_refl _⟩ hf (fun v I' L' h => qX12_isHomeBy x.2.1 n d a1 a3 I L v I' L' h) (fun v1 I1 L1 hf => ?_)
    refine j_if_eq (tgt := 38) hc dX12_reads_29 rfl hf (fun hf => ?_) (fun hf => ?_)
    · refine j_iconst (v := (0 : Int32)) hc dX12_reads_38 ci_0 ?_
      exact j_sub (tX12_reads_b39 n d hc k14 hk14 _ _ _ _ _ _ hf) (And.intro rfl (And.intro rfl (And.intro rfl (trivial))))
    · refine j_iconst (v := (1 : Int32)) hc dX12_reads_32 ci_1 ?_
      refine j_iload_n hc dX12_reads_33 rfl ?_
      refine j_ishl hc dX12_reads_34 ?_
      refine j_goto (tgt := 39) hc dX12_reads_35 rfl ?_
      exact j_sub (tX12_reads_b39 n d hc k14 hk14 _ _ _ _ _ _ hf) (And.intro rfl (And.intro rfl (And.intro rfl (trivial))))

def fX12_reads_b14 (n d : Nat) : Nat → Int32 → Int32 → Int32 → am_I → am_L → Option (Int32 × am_I × am_L)
  | 0 => fun _ _ _ _ _ => none
  | m + 1 => fX12_reads_b14w n d  (fX12_reads_b14 n d m)

set_option maxRecDepth 100000 in
theorem tX12_reads_b14 {x : am_X} (n d : Nat) (hc : am_ok x cX12_reads yX12_reads 4 (some .int) (d + 7) 0 0) {r : Int32} {I' : am_I} {L' : am_L} (m : Nat) : ∀ (a1 : Int32) (a2 : Int32) (a3 : Int32) (I : am_I) (L : am_L) (hf : fX12_reads_b14 n d m a1 a2 a3 I L = some (r, I', L')), am_J x (fun S => S = (some (.int r), KM, RM, I', L')) 14 [some (.ref 0), some (.int a1), some (.int a2), some (.int a3)] [] KM RM I L 0 0 := by
  induction m with
  | zero => intro a1 a2 a3 I L hf; exact (Option.some_ne_none _ hf.symm).elim
  | succ m ih => intro a1 a2 a3 I L hf; exact tX12_reads_b14w n d hc (fX12_reads_b14 n d m) ih a1 a2 a3 I L hf

set_option maxRecDepth 100000 in
def fX12_reads (n d : Nat) (a1 : Int32) (I : am_I) (L : am_L) : Option (Int32 × am_I × am_L) :=
  am_b3 (fX12_isMan n d a1 I L) (fun v1 I1 L1 => if v1 = 0 then
    (some ((-1 : Int32), I1, L1))
    else
    (am_lt (0 : Int32) (fun v2 => am_lt (0 : Int32) (fun v3 => fX12_reads_b14 n d n a1 v2 v3 I1 L1))))

set_option maxRecDepth 100000 in
set_option maxHeartbeats 4000000 in
theorem tX12_reads {x : am_X} (n d : Nat) (hc : am_ok x cX12_reads yX12_reads 4 (some .int) (d + 7) 0 0) {r : Int32} {I' : am_I} {L' : am_L} (a1 : Int32) (I : am_I) (L : am_L) (hf : fX12_reads n d a1 I L = some (r, I', L')) : am_J x (fun S => S = (some (.int r), KM, RM, I', L')) 0 [some (.ref 0), some (.int a1), none, none] [] KM RM I L 0 0 := by
  unfold fX12_reads at hf
  refine j_aload_n hc dX12_reads_0 rfl ?_
  refine j_iload_n hc dX12_reads_1 rfl ?_
  refine j_callVI (t := 0) (As := [.int a1]) hc dX12_reads_2 kw_1768 mX12_isMan kM_0 clX12 rfl (by omega) (Nat.le_of_ble_eq_true rfl) (Nat.le_of_ble_eq_true rfl) ⟨Nat.le_refl _, Nat.le_refl _⟩ hf (fun v I' L' h => qX12_isMan x.2.1 n d a1 I L v I' L' h) (fun v1 I1 L1 hf => ?_)
  refine j_if_ne (tgt := 10) hc dX12_reads_5 rfl hf (fun hf => ?_) (fun hf => ?_)
  · refine j_iconst (v := (0 : Int32)) hc dX12_reads_10 ci_0 ?_
    refine j_istore_n hc dX12_reads_11 (Nat.le_of_ble_eq_true rfl) hf (fun v2 hf => ?_)
    refine j_iconst (v := (0 : Int32)) hc dX12_reads_12 ci_0 ?_
    refine j_istore_n hc dX12_reads_13 (Nat.le_of_ble_eq_true rfl) hf (fun v3 hf => ?_)
    exact j_sub (tX12_reads_b14 n d hc n _ _ _ _ _ hf) (And.intro rfl (And.intro rfl (And.intro rfl (And.intro rfl (trivial)))))
  · refine j_iconst (v := (-1 : Int32)) hc dX12_reads_8 ci_m1 ?_
    exact j_ireturn hc dX12_reads_9 rfl rfl hf

set_option maxRecDepth 100000 in
theorem qX12_reads (l : Launch) (n d : Nat) (a1 : Int32) (I : am_I) (L : am_L) (r : Int32) (I' : am_I) (L' : am_L) (hf : fX12_reads n d a1 I L = some (r, I', L')) : am_C l yX12_reads cX12_reads 4 (some .int) (d + 7) [.ref 0, .int a1] KM RM I L (some (.int r)) I' L' := by
  exact am_intro (plainFor_of_name plX12) (fun _ _ => trivial) (Nat.le_of_ble_eq_true rfl) (fun x hl hc => by subst hl; exact j_sub (tX12_reads n d hc _ _ _ hf) (And.intro rfl (And.intro rfl (trivial))))
set_option maxRecDepth 100000 in
def fX12_isAhead (n d : Nat) (a1 : Int32) (a2 : Int32) (I : am_I) (L : am_L) : Option (Int32 × am_I × am_L) :=
  am_ck ((2 : Int32) * a2) 12 (am_lt (I 15 (((2 : Int32) * a2)).toNatClampNeg) (fun v1 => am_ck ((0 : Int32) + a1) 206 (am_lt (I 17 (((0 : Int32) + a1)).toNatClampNeg) (fun v2 => if v2 ≤ v1 then
    (some ((0 : Int32), I, L))
    else
    (some ((1 : Int32), I, L))))))

set_option maxRecDepth 100000 in
set_option maxHeartbeats 4000000 in
theorem tX12_isAhead {x : am_X} (n d : Nat) (hc : am_ok x cX12_isAhead yX12_isAhead 3 (some .boolean) (d + 1) 0 0) {r : Int32} {I' : am_I} {L' : am_L} (a1 : Int32) (a2 : Int32) (I : am_I) (L : am_L) (hf : fX12_isAhead n d a1 a2 I L = some (r, I', L')) : am_J x (fun S => S = (some (.int r), KM, RM, I', L')) 0 [some (.ref 0), some (.int a1), some (.int a2)] [] KM RM I L 0 0 := by
  unfold fX12_isAhead at hf
  refine j_aload_n hc dX12_isAhead_0 rfl ?_
  refine j_getR (u := 15) hc dX12_isAhead_1 fgM_X12_52_0 rM_0_23 ?_
  refine j_iconst (v := (2 : Int32)) hc dX12_isAhead_4 ci_2 ?_
  refine j_iload_n hc dX12_isAhead_5 rfl ?_
  refine j_imul hc dX12_isAhead_6 ?_
  refine j_iaload (n := 12) hc dX12_isAhead_7 kM_15 hf (fun v1 hf => ?_)
  refine j_aload_n hc dX12_isAhead_8 rfl ?_
  refine j_getR (u := 17) hc dX12_isAhead_9 fgM_X12_58_0 rM_0_27 ?_
  refine j_iconst (v := (0 : Int32)) hc dX12_isAhead_12 ci_0 ?_
  refine j_iload_n hc dX12_isAhead_13 rfl ?_
  refine j_iadd hc dX12_isAhead_14 ?_
  refine j_iaload (n := 206) hc dX12_isAhead_15 kM_17 hf (fun v2 hf => ?_)
  refine j_icmp_ge (tgt := 23) hc dX12_isAhead_16 rfl hf (fun hf => ?_) (fun hf => ?_)
  · refine j_iconst (v := (0 : Int32)) hc dX12_isAhead_23 ci_0 ?_
    exact j_zret hc dX12_isAhead_24 rfl rfl (Or.inl rfl) hf
  · refine j_iconst (v := (1 : Int32)) hc dX12_isAhead_19 ci_1 ?_
    refine j_goto (tgt := 24) hc dX12_isAhead_20 rfl ?_
    exact j_zret hc dX12_isAhead_24 rfl rfl (Or.inr rfl) hf

set_option maxRecDepth 100000 in
theorem qX12_isAhead (l : Launch) (n d : Nat) (a1 : Int32) (a2 : Int32) (I : am_I) (L : am_L) (r : Int32) (I' : am_I) (L' : am_L) (hf : fX12_isAhead n d a1 a2 I L = some (r, I', L')) : am_C l yX12_isAhead cX12_isAhead 3 (some .boolean) (d + 1) [.ref 0, .int a1, .int a2] KM RM I L (some (.int r)) I' L' := by
  exact am_intro (plainFor_of_name plX12) (fun _ _ => trivial) (Nat.le_of_ble_eq_true rfl) (fun x hl hc => by subst hl; exact j_sub (tX12_isAhead n d hc _ _ _ _ hf) (And.intro rfl (And.intro rfl (And.intro rfl (trivial)))))
set_option maxRecDepth 100000 in
def fX12_away_b63 (n d : Nat) (k31 : Int32 → Int32 → Int32 → am_I → am_L → Option (Int32 × am_I × am_L)) (s0 : Int32) (s1 : Int32) (a1 : Int32) (a3 : Int32) (I : am_I) (L : am_L) : Option (Int32 × am_I × am_L) :=
  am_lt (s0 + s1) (fun v1 => am_lt (a3 + (1 : Int32)) (fun v2 => k31 a1 v1 v2 I L))

set_option maxRecDepth 100000 in
set_option maxHeartbeats 4000000 in
theorem tX12_away_b63 {x : am_X} (n d : Nat) (hc : am_ok x cX12_away yX12_away 4 (some .int) (d + 3) 0 0) {r : Int32} {I' : am_I} {L' : am_L} (k31 : Int32 → Int32 → Int32 → am_I → am_L → Option (Int32 × am_I × am_L)) (hk31 : ∀ (a1 : Int32) (a2 : Int32) (a3 : Int32) (I : am_I) (L : am_L), k31 a1 a2 a3 I L = some (r, I', L') → am_J x (fun S => S = (some (.int r), KM, RM, I', L')) 31 [some (.ref 0), some (.int a1), some (.int a2), some (.int a3)] [] KM RM I L 0 0) (s0 : Int32) (s1 : Int32) (a1 : Int32) (a3 : Int32) (I : am_I) (L : am_L) (hf : fX12_away_b63 n d k31 s0 s1 a1 a3 I L = some (r, I', L')) : am_J x (fun S => S = (some (.int r), KM, RM, I', L')) 63 [some (.ref 0), some (.int a1), none, some (.int a3)] [.int s1, .int s0] KM RM I L 0 0 := by
  unfold fX12_away_b63 at hf
  refine j_iadd hc dX12_away_63 ?_
  refine j_istore_n hc dX12_away_64 (Nat.le_of_ble_eq_true rfl) hf (fun v1 hf => ?_)
  refine j_iinc (w := (1 : Int32)) hc dX12_away_65 rfl ci_1 (Nat.le_of_ble_eq_true rfl) hf (fun v2 hf => ?_)
  refine j_goto (tgt := 31) hc dX12_away_68 rfl ?_
  exact j_sub (hk31 _ _ _ _ _ hf) (And.intro rfl (And.intro rfl (And.intro rfl (And.intro rfl (trivial)))))

set_option maxRecDepth 100000 in
def fX12_away_b31w (n d : Nat) (k31 : Int32 → Int32 → Int32 → am_I → am_L → Option (Int32 × am_I × am_L)) (a1 : Int32) (a2 : Int32) (a3 : Int32) (I : am_I) (L : am_L) : Option (Int32 × am_I × am_L) :=
  if (I 0 26) ≤ a3 then
    (some (a2, I, L))
    else
    (am_b3 (fX12_isAhead n d a1 a3 I L) (fun v1 I1 L1 => if v1 = 0 then
      (fX12_away_b63 n d k31 a2 (0 : Int32) a1 a3 I1 L1)
      else
      (am_ck (((2 : Int32) * a3) + (1 : Int32)) 12 (am_lt (I1 15 ((((2 : Int32) * a3) + (1 : Int32))).toNatClampNeg) (fun v2 => fX12_away_b63 n d k31 a2 v2 a1 a3 I1 L1)))))

set_option maxRecDepth 100000 in
set_option maxHeartbeats 4000000 in
theorem tX12_away_b31w {x : am_X} (n d : Nat) (hc : am_ok x cX12_away yX12_away 4 (some .int) (d + 3) 0 0) {r : Int32} {I' : am_I} {L' : am_L} (k31 : Int32 → Int32 → Int32 → am_I → am_L → Option (Int32 × am_I × am_L)) (hk31 : ∀ (a1 : Int32) (a2 : Int32) (a3 : Int32) (I : am_I) (L : am_L), k31 a1 a2 a3 I L = some (r, I', L') → am_J x (fun S => S = (some (.int r), KM, RM, I', L')) 31 [some (.ref 0), some (.int a1), some (.int a2), some (.int a3)] [] KM RM I L 0 0) (a1 : Int32) (a2 : Int32) (a3 : Int32) (I : am_I) (L : am_L) (hf : fX12_away_b31w n d k31 a1 a2 a3 I L = some (r, I', L')) : am_J x (fun S => S = (some (.int r), KM, RM, I', L')) 31 [some (.ref 0), some (.int a1), some (.int a2), some (.int a3)] [] KM RM I L 0 0 := by
  unfold fX12_away_b31w at hf
  refine j_iload_n hc dX12_away_31 rfl ?_
  refine j_aload_n hc dX12_away_32 rfl ?_
  refine j_getI hc dX12_away_33 fgM_X12_253_0 ?_
  refine j_icmp_ge (tgt := 71) hc dX12_away_36 rfl hf (fun hf => ?_) (fun hf => ?_)
  · refine j_iload_n hc dX12_away_71 rfl ?_
    exact j_ireturn hc dX12_away_72 rfl rfl hf
  · refine j_iload_n hc dX12_away_39 rfl ?_
    refine j_aload_n hc dX12_away_40 rfl ?_
    refine j_iload_n hc dX12_away_41 rfl ?_
    refine j_iload_n hc dX12_away_42 rfl ?_
    refine j_callVI (t := 0) (As := [.int a1, .int a3]) hc dX12_away_43 kw_2006 mX12_isAhead kM_0 clX12 rfl (by omega) (Nat.le_of_ble_eq_true rfl) (Nat.le_of_ble_eq_true rfl) ⟨Nat.le_refl _, Nat.le_refl _⟩ hf (fun v I' L' h => qX12_isAhead x.2.1 n d a1 a3 I L v I' L' h) (fun v1 I1 L1 hf => ?_)
    refine j_if_eq (tgt := 62) hc dX12_away_46 rfl hf (fun hf => ?_) (fun hf => ?_)
    · refine j_iconst (v := (0 : Int32)) hc dX12_away_62 ci_0 ?_
      exact j_sub (tX12_away_b63 n d hc k31 hk31 _ _ _ _ _ _ hf) (And.intro rfl (And.intro rfl (And.intro rfl (trivial))))
    · refine j_aload_n hc dX12_away_49 rfl ?_
      refine j_getR (u := 15) hc dX12_away_50 fgM_X12_52_0 rM_0_23 ?_
      refine j_iconst (v := (2 : Int32)) hc dX12_away_53 ci_2 ?_
      refine j_iload_n hc dX12_away_54 rfl ?_
      refine j_imul hc dX12_away_55 ?_
      refine j_iconst (v := (1 : Int32)) hc dX12_away_56 ci_1 ?_
      refine j_iadd hc dX12_away_57 ?_
      refine j_iaload (n := 12) hc dX12_away_58 kM_15 hf (fun v2 hf => ?_)
      refine j_goto (tgt := 63) hc dX12_away_59 rfl ?_
      exact j_sub (tX12_away_b63 n d hc k31 hk31 _ _ _ _ _ _ hf) (And.intro rfl (And.intro rfl (And.intro rfl (trivial))))

def fX12_away_b31 (n d : Nat) : Nat → Int32 → Int32 → Int32 → am_I → am_L → Option (Int32 × am_I × am_L)
  | 0 => fun _ _ _ _ _ => none
  | m + 1 => fX12_away_b31w n d  (fX12_away_b31 n d m)

set_option maxRecDepth 100000 in
theorem tX12_away_b31 {x : am_X} (n d : Nat) (hc : am_ok x cX12_away yX12_away 4 (some .int) (d + 3) 0 0) {r : Int32} {I' : am_I} {L' : am_L} (m : Nat) : ∀ (a1 : Int32) (a2 : Int32) (a3 : Int32) (I : am_I) (L : am_L) (hf : fX12_away_b31 n d m a1 a2 a3 I L = some (r, I', L')), am_J x (fun S => S = (some (.int r), KM, RM, I', L')) 31 [some (.ref 0), some (.int a1), some (.int a2), some (.int a3)] [] KM RM I L 0 0 := by
  induction m with
  | zero => intro a1 a2 a3 I L hf; exact (Option.some_ne_none _ hf.symm).elim
  | succ m ih => intro a1 a2 a3 I L hf; exact tX12_away_b31w n d hc (fX12_away_b31 n d m) ih a1 a2 a3 I L hf

set_option maxRecDepth 100000 in
def fX12_away (n d : Nat) (a1 : Int32) (I : am_I) (L : am_L) : Option (Int32 × am_I × am_L) :=
  am_b3 (fX12_isMan n d a1 I L) (fun v1 I1 L1 => if v1 = 0 then
    (some ((-1 : Int32), I1, L1))
    else
    (am_ck ((0 : Int32) + a1) 206 (am_lt (I1 17 (((0 : Int32) + a1)).toNatClampNeg) (fun v2 => am_ck ((8 : Int32) + a1) 206 (am_lt (I1 17 (((8 : Int32) + a1)).toNatClampNeg) (fun v3 => am_lt (v2 + v3) (fun v4 => am_lt (0 : Int32) (fun v5 => fX12_away_b31 n d n a1 v4 v5 I1 L1))))))))

set_option maxRecDepth 100000 in
set_option maxHeartbeats 4000000 in
theorem tX12_away {x : am_X} (n d : Nat) (hc : am_ok x cX12_away yX12_away 4 (some .int) (d + 3) 0 0) {r : Int32} {I' : am_I} {L' : am_L} (a1 : Int32) (I : am_I) (L : am_L) (hf : fX12_away n d a1 I L = some (r, I', L')) : am_J x (fun S => S = (some (.int r), KM, RM, I', L')) 0 [some (.ref 0), some (.int a1), none, none] [] KM RM I L 0 0 := by
  unfold fX12_away at hf
  refine j_aload_n hc dX12_away_0 rfl ?_
  refine j_iload_n hc dX12_away_1 rfl ?_
  refine j_callVI (t := 0) (As := [.int a1]) hc dX12_away_2 kw_1768 mX12_isMan kM_0 clX12 rfl (by omega) (Nat.le_of_ble_eq_true rfl) (Nat.le_of_ble_eq_true rfl) ⟨Nat.le_refl _, Nat.le_refl _⟩ hf (fun v I' L' h => qX12_isMan x.2.1 n d a1 I L v I' L' h) (fun v1 I1 L1 hf => ?_)
  refine j_if_ne (tgt := 10) hc dX12_away_5 rfl hf (fun hf => ?_) (fun hf => ?_)
  · refine j_aload_n hc dX12_away_10 rfl ?_
    refine j_getR (u := 17) hc dX12_away_11 fgM_X12_58_0 rM_0_27 ?_
    refine j_iconst (v := (0 : Int32)) hc dX12_away_14 ci_0 ?_
    refine j_iload_n hc dX12_away_15 rfl ?_
    refine j_iadd hc dX12_away_16 ?_
    refine j_iaload (n := 206) hc dX12_away_17 kM_17 hf (fun v2 hf => ?_)
    refine j_aload_n hc dX12_away_18 rfl ?_
    refine j_getR (u := 17) hc dX12_away_19 fgM_X12_58_0 rM_0_27 ?_
    refine j_bipush (v := (8 : Int32)) hc dX12_away_22 cb_8 ?_
    refine j_iload_n hc dX12_away_24 rfl ?_
    refine j_iadd hc dX12_away_25 ?_
    refine j_iaload (n := 206) hc dX12_away_26 kM_17 hf (fun v3 hf => ?_)
    refine j_iadd hc dX12_away_27 ?_
    refine j_istore_n hc dX12_away_28 (Nat.le_of_ble_eq_true rfl) hf (fun v4 hf => ?_)
    refine j_iconst (v := (0 : Int32)) hc dX12_away_29 ci_0 ?_
    refine j_istore_n hc dX12_away_30 (Nat.le_of_ble_eq_true rfl) hf (fun v5 hf => ?_)
    exact j_sub (tX12_away_b31 n d hc n _ _ _ _ _ hf) (And.intro rfl (And.intro rfl (And.intro rfl (And.intro rfl (trivial)))))
  · refine j_iconst (v := (-1 : Int32)) hc dX12_away_8 ci_m1 ?_
    exact j_ireturn hc dX12_away_9 rfl rfl hf

set_option maxRecDepth 100000 in
theorem qX12_away (l : Launch) (n d : Nat) (a1 : Int32) (I : am_I) (L : am_L) (r : Int32) (I' : am_I) (L' : am_L) (hf : fX12_away n d a1 I L = some (r, I', L')) : am_C l yX12_away cX12_away 4 (some .int) (d + 3) [.ref 0, .int a1] KM RM I L (some (.int r)) I' L' := by
  exact am_intro (plainFor_of_name plX12) (fun _ _ => trivial) (Nat.le_of_ble_eq_true rfl) (fun x hl hc => by subst hl; exact j_sub (tX12_away n d hc _ _ _ hf) (And.intro rfl (And.intro rfl (trivial))))
set_option maxRecDepth 100000 in
def fX12_forced_b88 (n d : Nat) (k21 : Int32 → Int32 → Int32 → am_I → am_L → Option (Int32 × am_I × am_L)) (k34 : Int32 → Int32 → Int32 → Int32 → am_I → am_L → Option (Int32 × am_I × am_L)) (s0 : Int32) (s1 : Int32) (a1 : Int32) (a3 : Int32) (a4 : Int32) (I : am_I) (L : am_L) : Option (Int32 × am_I × am_L) :=
  am_lt (s0 - s1) (fun v1 => am_lt (a4 + (1 : Int32)) (fun v2 => k34 a1 v1 a3 v2 I L))

set_option maxRecDepth 100000 in
set_option maxHeartbeats 4000000 in
theorem tX12_forced_b88 {x : am_X} (n d : Nat) (hc : am_ok x cX12_forced yX12_forced 5 (some .int) (d + 3) 0 0) {r : Int32} {I' : am_I} {L' : am_L} (k21 : Int32 → Int32 → Int32 → am_I → am_L → Option (Int32 × am_I × am_L)) (k34 : Int32 → Int32 → Int32 → Int32 → am_I → am_L → Option (Int32 × am_I × am_L)) (hk21 : ∀ (a1 : Int32) (a2 : Int32) (a3 : Int32) (I : am_I) (L : am_L), k21 a1 a2 a3 I L = some (r, I', L') → am_J x (fun S => S = (some (.int r), KM, RM, I', L')) 21 [some (.ref 0), some (.int a1), some (.int a2), some (.int a3), none] [] KM RM I L 0 0) (hk34 : ∀ (a1 : Int32) (a2 : Int32) (a3 : Int32) (a4 : Int32) (I : am_I) (L : am_L), k34 a1 a2 a3 a4 I L = some (r, I', L') → am_J x (fun S => S = (some (.int r), KM, RM, I', L')) 34 [some (.ref 0), some (.int a1), some (.int a2), some (.int a3), some (.int a4)] [] KM RM I L 0 0) (s0 : Int32) (s1 : Int32) (a1 : Int32) (a3 : Int32) (a4 : Int32) (I : am_I) (L : am_L) (hf : fX12_forced_b88 n d k21 k34 s0 s1 a1 a3 a4 I L = some (r, I', L')) : am_J x (fun S => S = (some (.int r), KM, RM, I', L')) 88 [some (.ref 0), some (.int a1), none, some (.int a3), some (.int a4)] [.int s1, .int s0] KM RM I L 0 0 := by
  unfold fX12_forced_b88 at hf
  refine j_isub hc dX12_forced_88 ?_
  refine j_istore_n hc dX12_forced_89 (Nat.le_of_ble_eq_true rfl) hf (fun v1 hf => ?_)
  refine j_iinc (w := (1 : Int32)) hc dX12_forced_90 rfl ci_1 (Nat.le_of_ble_eq_true rfl) hf (fun v2 hf => ?_)
  refine j_goto (tgt := 34) hc dX12_forced_93 rfl ?_
  exact j_sub (hk34 _ _ _ _ _ _ hf) (And.intro rfl (And.intro rfl (And.intro rfl (And.intro rfl (And.intro rfl (trivial))))))

set_option maxRecDepth 100000 in
def fX12_forced_b87 (n d : Nat) (k21 : Int32 → Int32 → Int32 → am_I → am_L → Option (Int32 × am_I × am_L)) (k34 : Int32 → Int32 → Int32 → Int32 → am_I → am_L → Option (Int32 × am_I × am_L)) (s0 : Int32) (a1 : Int32) (a3 : Int32) (a4 : Int32) (I : am_I) (L : am_L) : Option (Int32 × am_I × am_L) :=
  fX12_forced_b88 n d k21 k34 s0 (0 : Int32) a1 a3 a4 I L

set_option maxRecDepth 100000 in
set_option maxHeartbeats 4000000 in
theorem tX12_forced_b87 {x : am_X} (n d : Nat) (hc : am_ok x cX12_forced yX12_forced 5 (some .int) (d + 3) 0 0) {r : Int32} {I' : am_I} {L' : am_L} (k21 : Int32 → Int32 → Int32 → am_I → am_L → Option (Int32 × am_I × am_L)) (k34 : Int32 → Int32 → Int32 → Int32 → am_I → am_L → Option (Int32 × am_I × am_L)) (hk21 : ∀ (a1 : Int32) (a2 : Int32) (a3 : Int32) (I : am_I) (L : am_L), k21 a1 a2 a3 I L = some (r, I', L') → am_J x (fun S => S = (some (.int r), KM, RM, I', L')) 21 [some (.ref 0), some (.int a1), some (.int a2), some (.int a3), none] [] KM RM I L 0 0) (hk34 : ∀ (a1 : Int32) (a2 : Int32) (a3 : Int32) (a4 : Int32) (I : am_I) (L : am_L), k34 a1 a2 a3 a4 I L = some (r, I', L') → am_J x (fun S => S = (some (.int r), KM, RM, I', L')) 34 [some (.ref 0), some (.int a1), some (.int a2), some (.int a3), some (.int a4)] [] KM RM I L 0 0) (s0 : Int32) (a1 : Int32) (a3 : Int32) (a4 : Int32) (I : am_I) (L : am_L) (hf : fX12_forced_b87 n d k21 k34 s0 a1 a3 a4 I L = some (r, I', L')) : am_J x (fun S => S = (some (.int r), KM, RM, I', L')) 87 [some (.ref 0), some (.int a1), none, some (.int a3), some (.int a4)] [.int s0] KM RM I L 0 0 := by
  unfold fX12_forced_b87 at hf
  refine j_iconst (v := (0 : Int32)) hc dX12_forced_87 ci_0 ?_
  exact j_sub (tX12_forced_b88 n d hc k21 k34 hk21 hk34 _ _ _ _ _ _ _ hf) (And.intro rfl (And.intro rfl (And.intro rfl (And.intro rfl (trivial)))))

set_option maxRecDepth 100000 in
def fX12_forced_b34w (n d : Nat) (k21 : Int32 → Int32 → Int32 → am_I → am_L → Option (Int32 × am_I × am_L)) (k34 : Int32 → Int32 → Int32 → Int32 → am_I → am_L → Option (Int32 × am_I × am_L)) (a1 : Int32) (a2 : Int32) (a3 : Int32) (a4 : Int32) (I : am_I) (L : am_L) : Option (Int32 × am_I × am_L) :=
  if (I 0 25) ≤ a4 then
    (k21 a1 a2 a3 I L)
    else
    (am_b3 (fX12_side n d a4 I L) (fun v1 I1 L1 => am_b3 (fX12_side n d a1 I1 L1) (fun v2 I2 L2 => if v1 = v2 then
      (fX12_forced_b87 n d k21 k34 a2 a1 a3 a4 I2 L2)
      else
      (am_ck ((8 : Int32) + a4) 206 (am_lt (I2 17 (((8 : Int32) + a4)).toNatClampNeg) (fun v3 => if v3 < a3 then
        (fX12_forced_b87 n d k21 k34 a2 a1 a3 a4 I2 L2)
        else
        (am_ck (((6 : Int32) * a4) + (2 : Int32)) 48 (am_lt (I2 14 ((((6 : Int32) * a4) + (2 : Int32))).toNatClampNeg) (fun v4 => fX12_forced_b88 n d k21 k34 a2 v4 a1 a3 a4 I2 L2)))))))))

set_option maxRecDepth 100000 in
set_option maxHeartbeats 4000000 in
theorem tX12_forced_b34w {x : am_X} (n d : Nat) (hc : am_ok x cX12_forced yX12_forced 5 (some .int) (d + 3) 0 0) {r : Int32} {I' : am_I} {L' : am_L} (k21 : Int32 → Int32 → Int32 → am_I → am_L → Option (Int32 × am_I × am_L)) (k34 : Int32 → Int32 → Int32 → Int32 → am_I → am_L → Option (Int32 × am_I × am_L)) (hk21 : ∀ (a1 : Int32) (a2 : Int32) (a3 : Int32) (I : am_I) (L : am_L), k21 a1 a2 a3 I L = some (r, I', L') → am_J x (fun S => S = (some (.int r), KM, RM, I', L')) 21 [some (.ref 0), some (.int a1), some (.int a2), some (.int a3), none] [] KM RM I L 0 0) (hk34 : ∀ (a1 : Int32) (a2 : Int32) (a3 : Int32) (a4 : Int32) (I : am_I) (L : am_L), k34 a1 a2 a3 a4 I L = some (r, I', L') → am_J x (fun S => S = (some (.int r), KM, RM, I', L')) 34 [some (.ref 0), some (.int a1), some (.int a2), some (.int a3), some (.int a4)] [] KM RM I L 0 0) (a1 : Int32) (a2 : Int32) (a3 : Int32) (a4 : Int32) (I : am_I) (L : am_L) (hf : fX12_forced_b34w n d k21 k34 a1 a2 a3 a4 I L = some (r, I', L')) : am_J x (fun S => S = (some (.int r), KM, RM, I', L')) 34 [some (.ref 0), some (.int a1), some (.int a2), some (.int a3), some (.int a4)] [] KM RM I L 0 0 := by
  unfold fX12_forced_b34w at hf
  refine j_iload hc dX12_forced_34 rfl ?_
  refine j_aload_n hc dX12_forced_36 rfl ?_
  refine j_getI hc dX12_forced_37 fgM_X12_250_0 ?_
  refine j_icmp_ge (tgt := 96) hc dX12_forced_40 rfl hf (fun hf => ?_) (fun hf => ?_)
  · refine j_goto (tgt := 21) hc dX12_forced_96 rfl ?_
    exact j_sub (hk21 _ _ _ _ _ hf) (And.intro rfl (And.intro rfl (And.intro rfl (And.intro rfl (trivial)))))
  · refine j_iload_n hc dX12_forced_43 rfl ?_
    refine j_aload_n hc dX12_forced_44 rfl ?_
    refine j_iload hc dX12_forced_45 rfl ?_
    refine j_callVI (t := 0) (As := [.int a4]) hc dX12_forced_47 kw_1780 mX12_side kM_0 clX12 rfl (by omega) (Nat.le_of_ble_eq_true rfl) (Nat.le_of_ble_eq_true rfl) ⟨Nat.le_refl _, Nat.le_refl _⟩ hf (fun v I' L' h => qX12_side x.2.1 n d a4 I L v I' L' h) (fun v1 I1 L1 hf => ?_)
    refine j_aload_n hc dX12_forced_50 rfl ?_
    refine j_iload_n hc dX12_forced_51 rfl ?_
    refine j_callVI (t := 0) (As := [.int a1]) hc dX12_forced_52 kw_1780 mX12_side kM_0 clX12 rfl (by omega) (Nat.le_of_ble_eq_true rfl) (Nat.le_of_ble_eq_true rfl) ⟨Nat.le_refl _, Nat.le_refl _⟩ hf (fun v I' L' h => qX12_side x.2.1 n d a1 I1 L1 v I' L' h) (fun v2 I2 L2 hf => ?_)
    refine j_icmp_eq (tgt := 87) hc dX12_forced_55 rfl hf (fun hf => ?_) (fun hf => ?_)
    · exact j_sub (tX12_forced_b87 n d hc k21 k34 hk21 hk34 _ _ _ _ _ _ hf) (And.intro rfl (And.intro rfl (And.intro rfl (And.intro rfl (trivial)))))
    · refine j_aload_n hc dX12_forced_58 rfl ?_
      refine j_getR (u := 17) hc dX12_forced_59 fgM_X12_58_0 rM_0_27 ?_
      refine j_bipush (v := (8 : Int32)) hc dX12_forced_62 cb_8 ?_
      refine j_iload hc dX12_forced_64 rfl ?_
      refine j_iadd hc dX12_forced_66 ?_
      refine j_iaload (n := 206) hc dX12_forced_67 kM_17 hf (fun v3 hf => ?_)
      refine j_iload_n hc dX12_forced_68 rfl ?_
      refine j_icmp_lt (tgt := 87) hc dX12_forced_69 rfl hf (fun hf => ?_) (fun hf => ?_)
      · exact j_sub (tX12_forced_b87 n d hc k21 k34 hk21 hk34 _ _ _ _ _ _ hf) (And.intro rfl (And.intro rfl (And.intro rfl (And.intro rfl (trivial)))))
      · refine j_aload_n hc dX12_forced_72 rfl ?_
        refine j_getR (u := 14) hc dX12_forced_73 fgM_X12_49_0 rM_0_22 ?_
        refine j_bipush (v := (6 : Int32)) hc dX12_forced_76 cb_6 ?_
        refine j_iload hc dX12_forced_78 rfl ?_
        refine j_imul hc dX12_forced_80 ?_
        refine j_iconst (v := (2 : Int32)) hc dX12_forced_81 ci_2 ?_
        refine j_iadd hc dX12_forced_82 ?_
        refine j_iaload (n := 48) hc dX12_forced_83 kM_14 hf (fun v4 hf => ?_)
        refine j_goto (tgt := 88) hc dX12_forced_84 rfl ?_
        exact j_sub (tX12_forced_b88 n d hc k21 k34 hk21 hk34 _ _ _ _ _ _ _ hf) (And.intro rfl (And.intro rfl (And.intro rfl (And.intro rfl (trivial)))))

def fX12_forced_b34 (n d : Nat) (k21 : Int32 → Int32 → Int32 → am_I → am_L → Option (Int32 × am_I × am_L)) : Nat → Int32 → Int32 → Int32 → Int32 → am_I → am_L → Option (Int32 × am_I × am_L)
  | 0 => fun _ _ _ _ _ _ => none
  | m + 1 => fX12_forced_b34w n d  k21 (fX12_forced_b34 n d k21 m)

set_option maxRecDepth 100000 in
theorem tX12_forced_b34 {x : am_X} (n d : Nat) (hc : am_ok x cX12_forced yX12_forced 5 (some .int) (d + 3) 0 0) {r : Int32} {I' : am_I} {L' : am_L} (k21 : Int32 → Int32 → Int32 → am_I → am_L → Option (Int32 × am_I × am_L)) (hk21 : ∀ (a1 : Int32) (a2 : Int32) (a3 : Int32) (I : am_I) (L : am_L), k21 a1 a2 a3 I L = some (r, I', L') → am_J x (fun S => S = (some (.int r), KM, RM, I', L')) 21 [some (.ref 0), some (.int a1), some (.int a2), some (.int a3), none] [] KM RM I L 0 0) (m : Nat) : ∀ (a1 : Int32) (a2 : Int32) (a3 : Int32) (a4 : Int32) (I : am_I) (L : am_L) (hf : fX12_forced_b34 n d k21 m a1 a2 a3 a4 I L = some (r, I', L')), am_J x (fun S => S = (some (.int r), KM, RM, I', L')) 34 [some (.ref 0), some (.int a1), some (.int a2), some (.int a3), some (.int a4)] [] KM RM I L 0 0 := by
  induction m with
  | zero => intro a1 a2 a3 a4 I L hf; exact (Option.some_ne_none _ hf.symm).elim
  | succ m ih => intro a1 a2 a3 a4 I L hf; exact tX12_forced_b34w n d hc k21 (fX12_forced_b34 n d k21 m) hk21 ih a1 a2 a3 a4 I L hf

set_option maxRecDepth 100000 in
def fX12_forced_b21w (n d : Nat) (k21 : Int32 → Int32 → Int32 → am_I → am_L → Option (Int32 × am_I × am_L)) (a1 : Int32) (a2 : Int32) (a3 : Int32) (I : am_I) (L : am_L) : Option (Int32 × am_I × am_L) :=
  if a2 ≤ 0 then
    (some (a3, I, L))
    else
    (am_lt (a3 + (1 : Int32)) (fun v1 => am_lt (a2 + (-1 : Int32)) (fun v2 => am_lt (0 : Int32) (fun v3 => fX12_forced_b34 n d k21 n a1 v2 v1 v3 I L))))

set_option maxRecDepth 100000 in
set_option maxHeartbeats 4000000 in
theorem tX12_forced_b21w {x : am_X} (n d : Nat) (hc : am_ok x cX12_forced yX12_forced 5 (some .int) (d + 3) 0 0) {r : Int32} {I' : am_I} {L' : am_L} (k21 : Int32 → Int32 → Int32 → am_I → am_L → Option (Int32 × am_I × am_L)) (hk21 : ∀ (a1 : Int32) (a2 : Int32) (a3 : Int32) (I : am_I) (L : am_L), k21 a1 a2 a3 I L = some (r, I', L') → am_J x (fun S => S = (some (.int r), KM, RM, I', L')) 21 [some (.ref 0), some (.int a1), some (.int a2), some (.int a3), none] [] KM RM I L 0 0) (a1 : Int32) (a2 : Int32) (a3 : Int32) (I : am_I) (L : am_L) (hf : fX12_forced_b21w n d k21 a1 a2 a3 I L = some (r, I', L')) : am_J x (fun S => S = (some (.int r), KM, RM, I', L')) 21 [some (.ref 0), some (.int a1), some (.int a2), some (.int a3), none] [] KM RM I L 0 0 := by
  unfold fX12_forced_b21w at hf
  refine j_iload_n hc dX12_forced_21 rfl ?_
  refine j_if_le (tgt := 99) hc dX12_forced_22 rfl hf (fun hf => ?_) (fun hf => ?_)
  · refine j_iload_n hc dX12_forced_99 rfl ?_
    exact j_ireturn hc dX12_forced_100 rfl rfl hf
  · refine j_iinc (w := (1 : Int32)) hc dX12_forced_25 rfl ci_1 (Nat.le_of_ble_eq_true rfl) hf (fun v1 hf => ?_)
    refine j_iinc (w := (-1 : Int32)) hc dX12_forced_28 rfl ci_m1 (Nat.le_of_ble_eq_true rfl) hf (fun v2 hf => ?_)
    refine j_iconst (v := (0 : Int32)) hc dX12_forced_31 ci_0 ?_
    refine j_istore hc dX12_forced_32 (Nat.le_of_ble_eq_true rfl) hf (fun v3 hf => ?_)
    exact j_sub (tX12_forced_b34 n d hc k21 hk21 n _ _ _ _ _ _ hf) (And.intro rfl (And.intro rfl (And.intro rfl (And.intro rfl (And.intro rfl (trivial))))))

def fX12_forced_b21 (n d : Nat) : Nat → Int32 → Int32 → Int32 → am_I → am_L → Option (Int32 × am_I × am_L)
  | 0 => fun _ _ _ _ _ => none
  | m + 1 => fX12_forced_b21w n d  (fX12_forced_b21 n d m)

set_option maxRecDepth 100000 in
theorem tX12_forced_b21 {x : am_X} (n d : Nat) (hc : am_ok x cX12_forced yX12_forced 5 (some .int) (d + 3) 0 0) {r : Int32} {I' : am_I} {L' : am_L} (m : Nat) : ∀ (a1 : Int32) (a2 : Int32) (a3 : Int32) (I : am_I) (L : am_L) (hf : fX12_forced_b21 n d m a1 a2 a3 I L = some (r, I', L')), am_J x (fun S => S = (some (.int r), KM, RM, I', L')) 21 [some (.ref 0), some (.int a1), some (.int a2), some (.int a3), none] [] KM RM I L 0 0 := by
  induction m with
  | zero => intro a1 a2 a3 I L hf; exact (Option.some_ne_none _ hf.symm).elim
  | succ m ih => intro a1 a2 a3 I L hf; exact tX12_forced_b21w n d hc (fX12_forced_b21 n d m) ih a1 a2 a3 I L hf

set_option maxRecDepth 100000 in
def fX12_forced (n d : Nat) (a1 : Int32) (I : am_I) (L : am_L) : Option (Int32 × am_I × am_L) :=
  am_b3 (fX12_isMan n d a1 I L) (fun v1 I1 L1 => if v1 = 0 then
    (some ((-1 : Int32), I1, L1))
    else
    (am_ck ((0 : Int32) + a1) 206 (am_lt (I1 17 (((0 : Int32) + a1)).toNatClampNeg) (fun v2 => am_lt v2 (fun v3 => am_lt (0 : Int32) (fun v4 => fX12_forced_b21 n d n a1 v3 v4 I1 L1))))))

set_option maxRecDepth 100000 in
set_option maxHeartbeats 4000000 in
theorem tX12_forced {x : am_X} (n d : Nat) (hc : am_ok x cX12_forced yX12_forced 5 (some .int) (d + 3) 0 0) {r : Int32} {I' : am_I} {L' : am_L} (a1 : Int32) (I : am_I) (L : am_L) (hf : fX12_forced n d a1 I L = some (r, I', L')) : am_J x (fun S => S = (some (.int r), KM, RM, I', L')) 0 [some (.ref 0), some (.int a1), none, none, none] [] KM RM I L 0 0 := by
  unfold fX12_forced at hf
  refine j_aload_n hc dX12_forced_0 rfl ?_
  refine j_iload_n hc dX12_forced_1 rfl ?_
  refine j_callVI (t := 0) (As := [.int a1]) hc dX12_forced_2 kw_1768 mX12_isMan kM_0 clX12 rfl (by omega) (Nat.le_of_ble_eq_true rfl) (Nat.le_of_ble_eq_true rfl) ⟨Nat.le_refl _, Nat.le_refl _⟩ hf (fun v I' L' h => qX12_isMan x.2.1 n d a1 I L v I' L' h) (fun v1 I1 L1 hf => ?_)
  refine j_if_ne (tgt := 10) hc dX12_forced_5 rfl hf (fun hf => ?_) (fun hf => ?_)
  · refine j_aload_n hc dX12_forced_10 rfl ?_
    refine j_getR (u := 17) hc dX12_forced_11 fgM_X12_58_0 rM_0_27 ?_
    refine j_iconst (v := (0 : Int32)) hc dX12_forced_14 ci_0 ?_
    refine j_iload_n hc dX12_forced_15 rfl ?_
    refine j_iadd hc dX12_forced_16 ?_
    refine j_iaload (n := 206) hc dX12_forced_17 kM_17 hf (fun v2 hf => ?_)
    refine j_istore_n hc dX12_forced_18 (Nat.le_of_ble_eq_true rfl) hf (fun v3 hf => ?_)
    refine j_iconst (v := (0 : Int32)) hc dX12_forced_19 ci_0 ?_
    refine j_istore_n hc dX12_forced_20 (Nat.le_of_ble_eq_true rfl) hf (fun v4 hf => ?_)
    exact j_sub (tX12_forced_b21 n d hc n _ _ _ _ _ hf) (And.intro rfl (And.intro rfl (And.intro rfl (And.intro rfl (trivial)))))
  · refine j_iconst (v := (-1 : Int32)) hc dX12_forced_8 ci_m1 ?_
    exact j_ireturn hc dX12_forced_9 rfl rfl hf

set_option maxRecDepth 100000 in
theorem qX12_forced (l : Launch) (n d : Nat) (a1 : Int32) (I : am_I) (L : am_L) (r : Int32) (I' : am_I) (L' : am_L) (hf : fX12_forced n d a1 I L = some (r, I', L')) : am_C l yX12_forced cX12_forced 5 (some .int) (d + 3) [.ref 0, .int a1] KM RM I L (some (.int r)) I' L' := by
  exact am_intro (plainFor_of_name plX12) (fun _ _ => trivial) (Nat.le_of_ble_eq_true rfl) (fun x hl hc => by subst hl; exact j_sub (tX12_forced n d hc _ _ _ hf) (And.intro rfl (And.intro rfl (trivial))))
set_option maxRecDepth 100000 in
def fX12_farthest_b49 (n d : Nat) (k4 : Int32 → Int32 → Int32 → am_I → am_L → Option (Int32 × am_I × am_L)) (s0 : Int32) (a1 : Int32) (a3 : Int32) (I : am_I) (L : am_L) : Option (Int32 × am_I × am_L) :=
  am_lt s0 (fun v1 => am_lt (a3 + (1 : Int32)) (fun v2 => k4 a1 v1 v2 I L))

set_option maxRecDepth 100000 in
set_option maxHeartbeats 4000000 in
theorem tX12_farthest_b49 {x : am_X} (n d : Nat) (hc : am_ok x cX12_farthest yX12_farthest 4 (some .int) (d + 2) 0 0) {r : Int32} {I' : am_I} {L' : am_L} (k4 : Int32 → Int32 → Int32 → am_I → am_L → Option (Int32 × am_I × am_L)) (hk4 : ∀ (a1 : Int32) (a2 : Int32) (a3 : Int32) (I : am_I) (L : am_L), k4 a1 a2 a3 I L = some (r, I', L') → am_J x (fun S => S = (some (.int r), KM, RM, I', L')) 4 [some (.ref 0), some (.int a1), some (.int a2), some (.int a3)] [] KM RM I L 0 0) (s0 : Int32) (a1 : Int32) (a3 : Int32) (I : am_I) (L : am_L) (hf : fX12_farthest_b49 n d k4 s0 a1 a3 I L = some (r, I', L')) : am_J x (fun S => S = (some (.int r), KM, RM, I', L')) 49 [some (.ref 0), some (.int a1), none, some (.int a3)] [.int s0] KM RM I L 0 0 := by
  unfold fX12_farthest_b49 at hf
  refine j_istore_n hc dX12_farthest_49 (Nat.le_of_ble_eq_true rfl) hf (fun v1 hf => ?_)
  refine j_iinc (w := (1 : Int32)) hc dX12_farthest_50 rfl ci_1 (Nat.le_of_ble_eq_true rfl) hf (fun v2 hf => ?_)
  refine j_goto (tgt := 4) hc dX12_farthest_53 rfl ?_
  exact j_sub (hk4 _ _ _ _ _ hf) (And.intro rfl (And.intro rfl (And.intro rfl (And.intro rfl (trivial)))))

set_option maxRecDepth 100000 in
def fX12_farthest_b48 (n d : Nat) (k4 : Int32 → Int32 → Int32 → am_I → am_L → Option (Int32 × am_I × am_L)) (a1 : Int32) (a2 : Int32) (a3 : Int32) (I : am_I) (L : am_L) : Option (Int32 × am_I × am_L) :=
  fX12_farthest_b49 n d k4 a2 a1 a3 I L

set_option maxRecDepth 100000 in
set_option maxHeartbeats 4000000 in
theorem tX12_farthest_b48 {x : am_X} (n d : Nat) (hc : am_ok x cX12_farthest yX12_farthest 4 (some .int) (d + 2) 0 0) {r : Int32} {I' : am_I} {L' : am_L} (k4 : Int32 → Int32 → Int32 → am_I → am_L → Option (Int32 × am_I × am_L)) (hk4 : ∀ (a1 : Int32) (a2 : Int32) (a3 : Int32) (I : am_I) (L : am_L), k4 a1 a2 a3 I L = some (r, I', L') → am_J x (fun S => S = (some (.int r), KM, RM, I', L')) 4 [some (.ref 0), some (.int a1), some (.int a2), some (.int a3)] [] KM RM I L 0 0) (a1 : Int32) (a2 : Int32) (a3 : Int32) (I : am_I) (L : am_L) (hf : fX12_farthest_b48 n d k4 a1 a2 a3 I L = some (r, I', L')) : am_J x (fun S => S = (some (.int r), KM, RM, I', L')) 48 [some (.ref 0), some (.int a1), some (.int a2), some (.int a3)] [] KM RM I L 0 0 := by
  unfold fX12_farthest_b48 at hf
  refine j_iload_n hc dX12_farthest_48 rfl ?_
  exact j_sub (tX12_farthest_b49 n d hc k4 hk4 _ _ _ _ _ hf) (And.intro rfl (And.intro rfl (And.intro rfl (trivial))))

set_option maxRecDepth 100000 in
def fX12_farthest_b44 (n d : Nat) (k4 : Int32 → Int32 → Int32 → am_I → am_L → Option (Int32 × am_I × am_L)) (a1 : Int32) (a3 : Int32) (I : am_I) (L : am_L) : Option (Int32 × am_I × am_L) :=
  fX12_farthest_b49 n d k4 a3 a1 a3 I L

set_option maxRecDepth 100000 in
set_option maxHeartbeats 4000000 in
theorem tX12_farthest_b44 {x : am_X} (n d : Nat) (hc : am_ok x cX12_farthest yX12_farthest 4 (some .int) (d + 2) 0 0) {r : Int32} {I' : am_I} {L' : am_L} (k4 : Int32 → Int32 → Int32 → am_I → am_L → Option (Int32 × am_I × am_L)) (hk4 : ∀ (a1 : Int32) (a2 : Int32) (a3 : Int32) (I : am_I) (L : am_L), k4 a1 a2 a3 I L = some (r, I', L') → am_J x (fun S => S = (some (.int r), KM, RM, I', L')) 4 [some (.ref 0), some (.int a1), some (.int a2), some (.int a3)] [] KM RM I L 0 0) (a1 : Int32) (a3 : Int32) (I : am_I) (L : am_L) (hf : fX12_farthest_b44 n d k4 a1 a3 I L = some (r, I', L')) : am_J x (fun S => S = (some (.int r), KM, RM, I', L')) 44 [some (.ref 0), some (.int a1), none, some (.int a3)] [] KM RM I L 0 0 := by
  unfold fX12_farthest_b44 at hf
  refine j_iload_n hc dX12_farthest_44 rfl ?_
  refine j_goto (tgt := 49) hc dX12_farthest_45 rfl ?_
  exact j_sub (tX12_farthest_b49 n d hc k4 hk4 _ _ _ _ _ hf) (And.intro rfl (And.intro rfl (And.intro rfl (trivial))))

set_option maxRecDepth 100000 in
def fX12_farthest_b4w (n d : Nat) (k4 : Int32 → Int32 → Int32 → am_I → am_L → Option (Int32 × am_I × am_L)) (a1 : Int32) (a2 : Int32) (a3 : Int32) (I : am_I) (L : am_L) : Option (Int32 × am_I × am_L) :=
  if (I 0 25) ≤ a3 then
    (some (a2, I, L))
    else
    (am_b3 (fX12_has n d a1 a3 I L) (fun v1 I1 L1 => if v1 = 0 then
      (fX12_farthest_b48 n d k4 a1 a2 a3 I1 L1)
      else
      (if a2 = (-1 : Int32) then
        (fX12_farthest_b44 n d k4 a1 a3 I1 L1)
        else
        (am_ck ((0 : Int32) + a3) 206 (am_lt (I1 17 (((0 : Int32) + a3)).toNatClampNeg) (fun v2 => am_ck ((0 : Int32) + a2) 206 (am_lt (I1 17 (((0 : Int32) + a2)).toNatClampNeg) (fun v3 => if v2 ≤ v3 then
          (fX12_farthest_b48 n d k4 a1 a2 a3 I1 L1)
          else
          (fX12_farthest_b44 n d k4 a1 a3 I1 L1)))))))))

set_option maxRecDepth 100000 in
set_option maxHeartbeats 4000000 in
theorem tX12_farthest_b4w {x : am_X} (n d : Nat) (hc : am_ok x cX12_farthest yX12_farthest 4 (some .int) (d + 2) 0 0) {r : Int32} {I' : am_I} {L' : am_L} (k4 : Int32 → Int32 → Int32 → am_I → am_L → Option (Int32 × am_I × am_L)) (hk4 : ∀ (a1 : Int32) (a2 : Int32) (a3 : Int32) (I : am_I) (L : am_L), k4 a1 a2 a3 I L = some (r, I', L') → am_J x (fun S => S = (some (.int r), KM, RM, I', L')) 4 [some (.ref 0), some (.int a1), some (.int a2), some (.int a3)] [] KM RM I L 0 0) (a1 : Int32) (a2 : Int32) (a3 : Int32) (I : am_I) (L : am_L) (hf : fX12_farthest_b4w n d k4 a1 a2 a3 I L = some (r, I', L')) : am_J x (fun S => S = (some (.int r), KM, RM, I', L')) 4 [some (.ref 0), some (.int a1), some (.int a2), some (.int a3)] [] KM RM I L 0 0 := by
  unfold fX12_farthest_b4w at hf
  refine j_iload_n hc dX12_farthest_4 rfl ?_
  refine j_aload_n hc dX12_farthest_5 rfl ?_
  refine j_getI hc dX12_farthest_6 fgM_X12_250_0 ?_
  refine j_icmp_ge (tgt := 56) hc dX12_farthest_9 rfl hf (fun hf => ?_) (fun hf => ?_)
  · refine j_iload_n hc dX12_farthest_56 rfl ?_
    exact j_ireturn hc dX12_farthest_57 rfl rfl hf
  · refine j_iload_n hc dX12_farthest_12 rfl ?_
    refine j_iload_n hc dX12_farthest_13 rfl ?_
    refine j_callSI (As := [.int a1, .int a3]) hc dX12_farthest_14 kw_1651 mX12_has  rfl (by omega) (Nat.le_of_ble_eq_true rfl) (Nat.le_of_ble_eq_true rfl) ⟨Nat.le_refl _, Nat.le_refl _⟩ hf (fun v I' L' h => qX12_has x.2.1 n d a1 a3 I L v I' L' h) (fun v1 I1 L1 hf => ?_)
    refine j_if_eq (tgt := 48) hc dX12_farthest_17 rfl hf (fun hf => ?_) (fun hf => ?_)
    · exact j_sub (tX12_farthest_b48 n d hc k4 hk4 _ _ _ _ _ hf) (And.intro rfl (And.intro rfl (And.intro rfl (And.intro rfl (trivial)))))
    · refine j_iload_n hc dX12_farthest_20 rfl ?_
      refine j_iconst (v := (-1 : Int32)) hc dX12_farthest_21 ci_m1 ?_
      refine j_icmp_eq (tgt := 44) hc dX12_farthest_22 rfl hf (fun hf => ?_) (fun hf => ?_)
      · exact j_sub (tX12_farthest_b44 n d hc k4 hk4 _ _ _ _ hf) (And.intro rfl (And.intro rfl (And.intro rfl (trivial))))
      · refine j_aload_n hc dX12_farthest_25 rfl ?_
        refine j_getR (u := 17) hc dX12_farthest_26 fgM_X12_58_0 rM_0_27 ?_
        refine j_iconst (v := (0 : Int32)) hc dX12_farthest_29 ci_0 ?_
        refine j_iload_n hc dX12_farthest_30 rfl ?_
        refine j_iadd hc dX12_farthest_31 ?_
        refine j_iaload (n := 206) hc dX12_farthest_32 kM_17 hf (fun v2 hf => ?_)
        refine j_aload_n hc dX12_farthest_33 rfl ?_
        refine j_getR (u := 17) hc dX12_farthest_34 fgM_X12_58_0 rM_0_27 ?_
        refine j_iconst (v := (0 : Int32)) hc dX12_farthest_37 ci_0 ?_
        refine j_iload_n hc dX12_farthest_38 rfl ?_
        refine j_iadd hc dX12_farthest_39 ?_
        refine j_iaload (n := 206) hc dX12_farthest_40 kM_17 hf (fun v3 hf => ?_)
        refine j_icmp_le (tgt := 48) hc dX12_farthest_41 rfl hf (fun hf => ?_) (fun hf => ?_)
        · exact j_sub (tX12_farthest_b48 n d hc k4 hk4 _ _ _ _ _ hf) (And.intro rfl (And.intro rfl (And.intro rfl (And.intro rfl (trivial)))))
        · exact j_sub (tX12_farthest_b44 n d hc k4 hk4 _ _ _ _ hf) (And.intro rfl (And.intro rfl (And.intro rfl (trivial))))

def fX12_farthest_b4 (n d : Nat) : Nat → Int32 → Int32 → Int32 → am_I → am_L → Option (Int32 × am_I × am_L)
  | 0 => fun _ _ _ _ _ => none
  | m + 1 => fX12_farthest_b4w n d  (fX12_farthest_b4 n d m)

set_option maxRecDepth 100000 in
theorem tX12_farthest_b4 {x : am_X} (n d : Nat) (hc : am_ok x cX12_farthest yX12_farthest 4 (some .int) (d + 2) 0 0) {r : Int32} {I' : am_I} {L' : am_L} (m : Nat) : ∀ (a1 : Int32) (a2 : Int32) (a3 : Int32) (I : am_I) (L : am_L) (hf : fX12_farthest_b4 n d m a1 a2 a3 I L = some (r, I', L')), am_J x (fun S => S = (some (.int r), KM, RM, I', L')) 4 [some (.ref 0), some (.int a1), some (.int a2), some (.int a3)] [] KM RM I L 0 0 := by
  induction m with
  | zero => intro a1 a2 a3 I L hf; exact (Option.some_ne_none _ hf.symm).elim
  | succ m ih => intro a1 a2 a3 I L hf; exact tX12_farthest_b4w n d hc (fX12_farthest_b4 n d m) ih a1 a2 a3 I L hf

set_option maxRecDepth 100000 in
def fX12_farthest (n d : Nat) (a1 : Int32) (I : am_I) (L : am_L) : Option (Int32 × am_I × am_L) :=
  am_lt (-1 : Int32) (fun v1 => am_lt (0 : Int32) (fun v2 => fX12_farthest_b4 n d n a1 v1 v2 I L))

set_option maxRecDepth 100000 in
set_option maxHeartbeats 4000000 in
theorem tX12_farthest {x : am_X} (n d : Nat) (hc : am_ok x cX12_farthest yX12_farthest 4 (some .int) (d + 2) 0 0) {r : Int32} {I' : am_I} {L' : am_L} (a1 : Int32) (I : am_I) (L : am_L) (hf : fX12_farthest n d a1 I L = some (r, I', L')) : am_J x (fun S => S = (some (.int r), KM, RM, I', L')) 0 [some (.ref 0), some (.int a1), none, none] [] KM RM I L 0 0 := by
  unfold fX12_farthest at hf
  refine j_iconst (v := (-1 : Int32)) hc dX12_farthest_0 ci_m1 ?_
  refine j_istore_n hc dX12_farthest_1 (Nat.le_of_ble_eq_true rfl) hf (fun v1 hf => ?_)
  refine j_iconst (v := (0 : Int32)) hc dX12_farthest_2 ci_0 ?_
  refine j_istore_n hc dX12_farthest_3 (Nat.le_of_ble_eq_true rfl) hf (fun v2 hf => ?_)
  exact j_sub (tX12_farthest_b4 n d hc n _ _ _ _ _ hf) (And.intro rfl (And.intro rfl (And.intro rfl (And.intro rfl (trivial)))))

set_option maxRecDepth 100000 in
theorem qX12_farthest (l : Launch) (n d : Nat) (a1 : Int32) (I : am_I) (L : am_L) (r : Int32) (I' : am_I) (L' : am_L) (hf : fX12_farthest n d a1 I L = some (r, I', L')) : am_C l yX12_farthest cX12_farthest 4 (some .int) (d + 2) [.ref 0, .int a1] KM RM I L (some (.int r)) I' L' := by
  exact am_intro (plainFor_of_name plX12) (fun _ _ => trivial) (Nat.le_of_ble_eq_true rfl) (fun x hl hc => by subst hl; exact j_sub (tX12_farthest n d hc _ _ _ hf) (And.intro rfl (And.intro rfl (trivial))))
set_option maxRecDepth 100000 in
def fX12_soonest (n d : Nat) (a1 : Int32) (I : am_I) (L : am_L) : Option (Int32 × am_I × am_L) :=
  am_b3 (fX12_isSide n d a1 I L) (fun v1 I1 L1 => if v1 = 0 then
    (some ((-1 : Int32), I1, L1))
    else
    (am_b3 (fX12_of n d a1 I1 L1) (fun v2 I2 L2 => am_b3 (fX12_farthest n d v2 I2 L2) (fun v3 I3 L3 => am_ck ((0 : Int32) + v3) 206 (am_lt (I3 17 (((0 : Int32) + v3)).toNatClampNeg) (fun v4 => some (v4, I3, L3)))))))

set_option maxRecDepth 100000 in
set_option maxHeartbeats 4000000 in
theorem tX12_soonest {x : am_X} (n d : Nat) (hc : am_ok x cX12_soonest yX12_soonest 2 (some .int) (d + 3) 0 0) {r : Int32} {I' : am_I} {L' : am_L} (a1 : Int32) (I : am_I) (L : am_L) (hf : fX12_soonest n d a1 I L = some (r, I', L')) : am_J x (fun S => S = (some (.int r), KM, RM, I', L')) 0 [some (.ref 0), some (.int a1)] [] KM RM I L 0 0 := by
  unfold fX12_soonest at hf
  refine j_aload_n hc dX12_soonest_0 rfl ?_
  refine j_iload_n hc dX12_soonest_1 rfl ?_
  refine j_callVI (t := 0) (As := [.int a1]) hc dX12_soonest_2 kw_1948 mX12_isSide kM_0 clX12 rfl (by omega) (Nat.le_of_ble_eq_true rfl) (Nat.le_of_ble_eq_true rfl) ⟨Nat.le_refl _, Nat.le_refl _⟩ hf (fun v I' L' h => qX12_isSide x.2.1 n d a1 I L v I' L' h) (fun v1 I1 L1 hf => ?_)
  refine j_if_eq (tgt := 27) hc dX12_soonest_5 rfl hf (fun hf => ?_) (fun hf => ?_)
  · refine j_iconst (v := (-1 : Int32)) hc dX12_soonest_27 ci_m1 ?_
    exact j_ireturn hc dX12_soonest_28 rfl rfl hf
  · refine j_aload_n hc dX12_soonest_8 rfl ?_
    refine j_getR (u := 17) hc dX12_soonest_9 fgM_X12_58_0 rM_0_27 ?_
    refine j_iconst (v := (0 : Int32)) hc dX12_soonest_12 ci_0 ?_
    refine j_aload_n hc dX12_soonest_13 rfl ?_
    refine j_aload_n hc dX12_soonest_14 rfl ?_
    refine j_iload_n hc dX12_soonest_15 rfl ?_
    refine j_callVI (t := 0) (As := [.int a1]) hc dX12_soonest_16 kw_1826 mX12_of kM_0 clX12 rfl (by omega) (Nat.le_of_ble_eq_true rfl) (Nat.le_of_ble_eq_true rfl) ⟨Nat.le_refl _, Nat.le_refl _⟩ hf (fun v I' L' h => qX12_of x.2.1 n d a1 I1 L1 v I' L' h) (fun v2 I2 L2 hf => ?_)
    refine j_callVI (t := 0) (As := [.int v2]) hc dX12_soonest_19 kw_2018 mX12_farthest kM_0 clX12 rfl (by omega) (Nat.le_of_ble_eq_true rfl) (Nat.le_of_ble_eq_true rfl) ⟨Nat.le_refl _, Nat.le_refl _⟩ hf (fun v I' L' h => qX12_farthest x.2.1 n d v2 I2 L2 v I' L' h) (fun v3 I3 L3 hf => ?_)
    refine j_iadd hc dX12_soonest_22 ?_
    refine j_iaload (n := 206) hc dX12_soonest_23 kM_17 hf (fun v4 hf => ?_)
    refine j_goto (tgt := 28) hc dX12_soonest_24 rfl ?_
    exact j_ireturn hc dX12_soonest_28 rfl rfl hf

set_option maxRecDepth 100000 in
theorem qX12_soonest (l : Launch) (n d : Nat) (a1 : Int32) (I : am_I) (L : am_L) (r : Int32) (I' : am_I) (L' : am_L) (hf : fX12_soonest n d a1 I L = some (r, I', L')) : am_C l yX12_soonest cX12_soonest 2 (some .int) (d + 3) [.ref 0, .int a1] KM RM I L (some (.int r)) I' L' := by
  exact am_intro (plainFor_of_name plX12) (fun _ _ => trivial) (Nat.le_of_ble_eq_true rfl) (fun x hl hc => by subst hl; exact j_sub (tX12_soonest n d hc _ _ _ hf) (And.intro rfl (And.intro rfl (trivial))))
set_option maxRecDepth 100000 in
def fX12_pony (n d : Nat) (a1 : Int32) (I : am_I) (L : am_L) : Option (Int32 × am_I × am_L) :=
  am_b3 (fX12_isSide n d a1 I L) (fun v1 I1 L1 => if v1 = 0 then
    (some ((-1 : Int32), I1, L1))
    else
    (am_b3 (fX12_of n d a1 I1 L1) (fun v2 I2 L2 => am_b3 (fX12_farthest n d v2 I2 L2) (fun v3 I3 L3 => some (v3, I3, L3)))))

set_option maxRecDepth 100000 in
set_option maxHeartbeats 4000000 in
theorem tX12_pony {x : am_X} (n d : Nat) (hc : am_ok x cX12_pony yX12_pony 2 (some .int) (d + 3) 0 0) {r : Int32} {I' : am_I} {L' : am_L} (a1 : Int32) (I : am_I) (L : am_L) (hf : fX12_pony n d a1 I L = some (r, I', L')) : am_J x (fun S => S = (some (.int r), KM, RM, I', L')) 0 [some (.ref 0), some (.int a1)] [] KM RM I L 0 0 := by
  unfold fX12_pony at hf
  refine j_aload_n hc dX12_pony_0 rfl ?_
  refine j_iload_n hc dX12_pony_1 rfl ?_
  refine j_callVI (t := 0) (As := [.int a1]) hc dX12_pony_2 kw_1948 mX12_isSide kM_0 clX12 rfl (by omega) (Nat.le_of_ble_eq_true rfl) (Nat.le_of_ble_eq_true rfl) ⟨Nat.le_refl _, Nat.le_refl _⟩ hf (fun v I' L' h => qX12_isSide x.2.1 n d a1 I L v I' L' h) (fun v1 I1 L1 hf => ?_)
  refine j_if_eq (tgt := 20) hc dX12_pony_5 rfl hf (fun hf => ?_) (fun hf => ?_)
  · refine j_iconst (v := (-1 : Int32)) hc dX12_pony_20 ci_m1 ?_
    exact j_ireturn hc dX12_pony_21 rfl rfl hf
  · refine j_aload_n hc dX12_pony_8 rfl ?_
    refine j_aload_n hc dX12_pony_9 rfl ?_
    refine j_iload_n hc dX12_pony_10 rfl ?_
    refine j_callVI (t := 0) (As := [.int a1]) hc dX12_pony_11 kw_1826 mX12_of kM_0 clX12 rfl (by omega) (Nat.le_of_ble_eq_true rfl) (Nat.le_of_ble_eq_true rfl) ⟨Nat.le_refl _, Nat.le_refl _⟩ hf (fun v I' L' h => qX12_of x.2.1 n d a1 I1 L1 v I' L' h) (fun v2 I2 L2 hf => ?_)
    refine j_callVI (t := 0) (As := [.int v2]) hc dX12_pony_14 kw_2018 mX12_farthest kM_0 clX12 rfl (by omega) (Nat.le_of_ble_eq_true rfl) (Nat.le_of_ble_eq_true rfl) ⟨Nat.le_refl _, Nat.le_refl _⟩ hf (fun v I' L' h => qX12_farthest x.2.1 n d v2 I2 L2 v I' L' h) (fun v3 I3 L3 hf => ?_)
    refine j_goto (tgt := 21) hc dX12_pony_17 rfl ?_
    exact j_ireturn hc dX12_pony_21 rfl rfl hf

set_option maxRecDepth 100000 in
theorem qX12_pony (l : Launch) (n d : Nat) (a1 : Int32) (I : am_I) (L : am_L) (r : Int32) (I' : am_I) (L' : am_L) (hf : fX12_pony n d a1 I L = some (r, I', L')) : am_C l yX12_pony cX12_pony 2 (some .int) (d + 3) [.ref 0, .int a1] KM RM I L (some (.int r)) I' L' := by
  exact am_intro (plainFor_of_name plX12) (fun _ _ => trivial) (Nat.le_of_ble_eq_true rfl) (fun x hl hc => by subst hl; exact j_sub (tX12_pony n d hc _ _ _ hf) (And.intro rfl (And.intro rfl (trivial))))
set_option maxRecDepth 100000 in
def fX12_getsOf_b80 (n d : Nat) (s0 : Int32) (a1 : Int32) (a5 : Int32) (I : am_I) (L : am_L) : Option (Int32 × am_I × am_L) :=
  am_lt s0 (fun v1 => am_b3 (fX12_side n d a1 I L) (fun v2 I2 L2 => if v2 = v1 then
    (am_ck (0 : Int32) 2 (am_lt (I2 16 ((0 : Int32)).toNatClampNeg) (fun v4 => some ((a5 - v4), I2, L2))))
    else
    (am_ck (0 : Int32) 2 (am_lt (I2 16 ((0 : Int32)).toNatClampNeg) (fun v3 => some ((a5 + v3), I2, L2))))))

set_option maxRecDepth 100000 in
set_option maxHeartbeats 4000000 in
theorem tX12_getsOf_b80 {x : am_X} (n d : Nat) (hc : am_ok x cX12_getsOf yX12_getsOf 7 (some .int) (d + 3) 0 0) {r : Int32} {I' : am_I} {L' : am_L} (s0 : Int32) (a1 : Int32) (a5 : Int32) (I : am_I) (L : am_L) (hf : fX12_getsOf_b80 n d s0 a1 a5 I L = some (r, I', L')) : am_J x (fun S => S = (some (.int r), KM, RM, I', L')) 80 [some (.ref 0), some (.int a1), none, none, none, some (.int a5), none] [.int s0] KM RM I L 0 0 := by
  unfold fX12_getsOf_b80 at hf
  refine j_istore hc dX12_getsOf_80 (Nat.le_of_ble_eq_true rfl) hf (fun v1 hf => ?_)
  refine j_aload_n hc dX12_getsOf_82 rfl ?_
  refine j_iload_n hc dX12_getsOf_83 rfl ?_
  refine j_callVI (t := 0) (As := [.int a1]) hc dX12_getsOf_84 kw_1780 mX12_side kM_0 clX12 rfl (by omega) (Nat.le_of_ble_eq_true rfl) (Nat.le_of_ble_eq_true rfl) ⟨Nat.le_refl _, Nat.le_refl _⟩ hf (fun v I' L' h => qX12_side x.2.1 n d a1 I L v I' L' h) (fun v2 I2 L2 hf => ?_)
  refine j_iload hc dX12_getsOf_87 rfl ?_
  refine j_icmp_ne (tgt := 104) hc dX12_getsOf_89 rfl hf (fun hf => ?_) (fun hf => ?_)
  · refine j_iload hc dX12_getsOf_104 rfl ?_
    refine j_aload_n hc dX12_getsOf_106 rfl ?_
    refine j_getR (u := 16) hc dX12_getsOf_107 fgM_X12_55_0 rM_0_24 ?_
    refine j_iconst (v := (0 : Int32)) hc dX12_getsOf_110 ci_0 ?_
    refine j_iaload (n := 2) hc dX12_getsOf_111 kM_16 hf (fun v3 hf => ?_)
    refine j_iadd hc dX12_getsOf_112 ?_
    exact j_ireturn hc dX12_getsOf_113 rfl rfl hf
  · refine j_iload hc dX12_getsOf_92 rfl ?_
    refine j_aload_n hc dX12_getsOf_94 rfl ?_
    refine j_getR (u := 16) hc dX12_getsOf_95 fgM_X12_55_0 rM_0_24 ?_
    refine j_iconst (v := (0 : Int32)) hc dX12_getsOf_98 ci_0 ?_
    refine j_iaload (n := 2) hc dX12_getsOf_99 kM_16 hf (fun v4 hf => ?_)
    refine j_isub hc dX12_getsOf_100 ?_
    refine j_goto (tgt := 113) hc dX12_getsOf_101 rfl ?_
    exact j_ireturn hc dX12_getsOf_113 rfl rfl hf

set_option maxRecDepth 100000 in
def fX12_getsOf_b60 (n d : Nat) (s0 : Int32) (a1 : Int32) (a3 : Int32) (a4 : Int32) (I : am_I) (L : am_L) : Option (Int32 × am_I × am_L) :=
  am_lt s0 (fun v1 => if a3 = a4 then
    (some (v1, I, L))
    else
    (if a3 = 0 then
      (fX12_getsOf_b80 n d (1 : Int32) a1 v1 I L)
      else
      (fX12_getsOf_b80 n d (0 : Int32) a1 v1 I L)))

set_option maxRecDepth 100000 in
set_option maxHeartbeats 4000000 in
theorem tX12_getsOf_b60 {x : am_X} (n d : Nat) (hc : am_ok x cX12_getsOf yX12_getsOf 7 (some .int) (d + 3) 0 0) {r : Int32} {I' : am_I} {L' : am_L} (s0 : Int32) (a1 : Int32) (a3 : Int32) (a4 : Int32) (I : am_I) (L : am_L) (hf : fX12_getsOf_b60 n d s0 a1 a3 a4 I L = some (r, I', L')) : am_J x (fun S => S = (some (.int r), KM, RM, I', L')) 60 [some (.ref 0), some (.int a1), none, some (.int a3), some (.int a4), none, none] [.int s0] KM RM I L 0 0 := by
  unfold fX12_getsOf_b60 at hf
  refine j_istore hc dX12_getsOf_60 (Nat.le_of_ble_eq_true rfl) hf (fun v1 hf => ?_)
  refine j_iload_n hc dX12_getsOf_62 rfl ?_
  refine j_iload hc dX12_getsOf_63 rfl ?_
  refine j_icmp_ne (tgt := 71) hc dX12_getsOf_65 rfl hf (fun hf => ?_) (fun hf => ?_)
  · refine j_iload_n hc dX12_getsOf_71 rfl ?_
    refine j_if_eq (tgt := 79) hc dX12_getsOf_72 rfl hf (fun hf => ?_) (fun hf => ?_)
    · refine j_iconst (v := (1 : Int32)) hc dX12_getsOf_79 ci_1 ?_
      exact j_sub (tX12_getsOf_b80 n d hc _ _ _ _ _ hf) (And.intro rfl (And.intro rfl (And.intro rfl (trivial))))
    · refine j_iconst (v := (0 : Int32)) hc dX12_getsOf_75 ci_0 ?_
      refine j_goto (tgt := 80) hc dX12_getsOf_76 rfl ?_
      exact j_sub (tX12_getsOf_b80 n d hc _ _ _ _ _ hf) (And.intro rfl (And.intro rfl (And.intro rfl (trivial))))
  · refine j_iload hc dX12_getsOf_68 rfl ?_
    exact j_ireturn hc dX12_getsOf_70 rfl rfl hf

set_option maxRecDepth 100000 in
def fX12_getsOf_b35 (n d : Nat) (s0 : Int32) (a1 : Int32) (a2 : Int32) (a3 : Int32) (I : am_I) (L : am_L) : Option (Int32 × am_I × am_L) :=
  am_lt s0 (fun v1 => am_b3 (fX12_has n d a2 a1 I L) (fun v2 I2 L2 => if v2 = 0 then
    (fX12_getsOf_b60 n d (0 : Int32) a1 a3 v1 I2 L2)
    else
    (am_ck (((6 : Int32) * a1) + (4 : Int32)) 48 (am_lt (I2 14 ((((6 : Int32) * a1) + (4 : Int32))).toNatClampNeg) (fun v3 => fX12_getsOf_b60 n d v3 a1 a3 v1 I2 L2)))))

set_option maxRecDepth 100000 in
set_option maxHeartbeats 4000000 in
theorem tX12_getsOf_b35 {x : am_X} (n d : Nat) (hc : am_ok x cX12_getsOf yX12_getsOf 7 (some .int) (d + 3) 0 0) {r : Int32} {I' : am_I} {L' : am_L} (s0 : Int32) (a1 : Int32) (a2 : Int32) (a3 : Int32) (I : am_I) (L : am_L) (hf : fX12_getsOf_b35 n d s0 a1 a2 a3 I L = some (r, I', L')) : am_J x (fun S => S = (some (.int r), KM, RM, I', L')) 35 [some (.ref 0), some (.int a1), some (.int a2), some (.int a3), none, none, none] [.int s0] KM RM I L 0 0 := by
  unfold fX12_getsOf_b35 at hf
  refine j_istore hc dX12_getsOf_35 (Nat.le_of_ble_eq_true rfl) hf (fun v1 hf => ?_)
  refine j_iload_n hc dX12_getsOf_37 rfl ?_
  refine j_iload_n hc dX12_getsOf_38 rfl ?_
  refine j_callSI (As := [.int a2, .int a1]) hc dX12_getsOf_39 kw_1651 mX12_has  rfl (by omega) (Nat.le_of_ble_eq_true rfl) (Nat.le_of_ble_eq_true rfl) ⟨Nat.le_refl _, Nat.le_refl _⟩ hf (fun v I' L' h => qX12_has x.2.1 n d a2 a1 I L v I' L' h) (fun v2 I2 L2 hf => ?_)
  refine j_if_eq (tgt := 59) hc dX12_getsOf_42 rfl hf (fun hf => ?_) (fun hf => ?_)
  · refine j_iconst (v := (0 : Int32)) hc dX12_getsOf_59 ci_0 ?_
    exact j_sub (tX12_getsOf_b60 n d hc _ _ _ _ _ _ hf) (And.intro rfl (And.intro rfl (And.intro rfl (And.intro rfl (trivial)))))
  · refine j_aload_n hc dX12_getsOf_45 rfl ?_
    refine j_getR (u := 14) hc dX12_getsOf_46 fgM_X12_49_0 rM_0_22 ?_
    refine j_bipush (v := (6 : Int32)) hc dX12_getsOf_49 cb_6 ?_
    refine j_iload_n hc dX12_getsOf_51 rfl ?_
    refine j_imul hc dX12_getsOf_52 ?_
    refine j_iconst (v := (4 : Int32)) hc dX12_getsOf_53 ci_4 ?_
    refine j_iadd hc dX12_getsOf_54 ?_
    refine j_iaload (n := 48) hc dX12_getsOf_55 kM_14 hf (fun v3 hf => ?_)
    refine j_goto (tgt := 60) hc dX12_getsOf_56 rfl ?_
    exact j_sub (tX12_getsOf_b60 n d hc _ _ _ _ _ _ hf) (And.intro rfl (And.intro rfl (And.intro rfl (And.intro rfl (trivial)))))

set_option maxRecDepth 100000 in
def fX12_getsOf_b17 (n d : Nat) (s0 : Int32) (a1 : Int32) (a2 : Int32) (I : am_I) (L : am_L) : Option (Int32 × am_I × am_L) :=
  am_lt s0 (fun v1 => am_b3 (fX12_of n d (1 : Int32) I L) (fun v2 I2 L2 => if (v2 &&& (a2 ^^^ (-1 : Int32))) = 0 then
    (fX12_getsOf_b35 n d (1 : Int32) a1 a2 v1 I2 L2)
    else
    (fX12_getsOf_b35 n d (0 : Int32) a1 a2 v1 I2 L2)))

set_option maxRecDepth 100000 in
set_option maxHeartbeats 4000000 in
theorem tX12_getsOf_b17 {x : am_X} (n d : Nat) (hc : am_ok x cX12_getsOf yX12_getsOf 7 (some .int) (d + 3) 0 0) {r : Int32} {I' : am_I} {L' : am_L} (s0 : Int32) (a1 : Int32) (a2 : Int32) (I : am_I) (L : am_L) (hf : fX12_getsOf_b17 n d s0 a1 a2 I L = some (r, I', L')) : am_J x (fun S => S = (some (.int r), KM, RM, I', L')) 17 [some (.ref 0), some (.int a1), some (.int a2), none, none, none, none] [.int s0] KM RM I L 0 0 := by
  unfold fX12_getsOf_b17 at hf
  refine j_istore_n hc dX12_getsOf_17 (Nat.le_of_ble_eq_true rfl) hf (fun v1 hf => ?_)
  refine j_aload_n hc dX12_getsOf_18 rfl ?_
  refine j_iconst (v := (1 : Int32)) hc dX12_getsOf_19 ci_1 ?_
  refine j_callVI (t := 0) (As := [.int (1 : Int32)]) hc dX12_getsOf_20 kw_1826 mX12_of kM_0 clX12 rfl (by omega) (Nat.le_of_ble_eq_true rfl) (Nat.le_of_ble_eq_true rfl) ⟨Nat.le_refl _, Nat.le_refl _⟩ hf (fun v I' L' h => qX12_of x.2.1 n d (1 : Int32) I L v I' L' h) (fun v2 I2 L2 hf => ?_)
  refine j_iload_n hc dX12_getsOf_23 rfl ?_
  refine j_iconst (v := (-1 : Int32)) hc dX12_getsOf_24 ci_m1 ?_
  refine j_ixor hc dX12_getsOf_25 ?_
  refine j_iand hc dX12_getsOf_26 ?_
  refine j_if_ne (tgt := 34) hc dX12_getsOf_27 rfl hf (fun hf => ?_) (fun hf => ?_)
  · refine j_iconst (v := (0 : Int32)) hc dX12_getsOf_34 ci_0 ?_
    exact j_sub (tX12_getsOf_b35 n d hc _ _ _ _ _ _ hf) (And.intro rfl (And.intro rfl (And.intro rfl (And.intro rfl (trivial)))))
  · refine j_iconst (v := (1 : Int32)) hc dX12_getsOf_30 ci_1 ?_
    refine j_goto (tgt := 35) hc dX12_getsOf_31 rfl ?_
    exact j_sub (tX12_getsOf_b35 n d hc _ _ _ _ _ _ hf) (And.intro rfl (And.intro rfl (And.intro rfl (And.intro rfl (trivial)))))

set_option maxRecDepth 100000 in
def fX12_getsOf (n d : Nat) (a1 : Int32) (a2 : Int32) (I : am_I) (L : am_L) : Option (Int32 × am_I × am_L) :=
  am_b3 (fX12_of n d (0 : Int32) I L) (fun v1 I1 L1 => if (v1 &&& (a2 ^^^ (-1 : Int32))) = 0 then
    (fX12_getsOf_b17 n d (1 : Int32) a1 a2 I1 L1)
    else
    (fX12_getsOf_b17 n d (0 : Int32) a1 a2 I1 L1))

set_option maxRecDepth 100000 in
set_option maxHeartbeats 4000000 in
theorem tX12_getsOf {x : am_X} (n d : Nat) (hc : am_ok x cX12_getsOf yX12_getsOf 7 (some .int) (d + 3) 0 0) {r : Int32} {I' : am_I} {L' : am_L} (a1 : Int32) (a2 : Int32) (I : am_I) (L : am_L) (hf : fX12_getsOf n d a1 a2 I L = some (r, I', L')) : am_J x (fun S => S = (some (.int r), KM, RM, I', L')) 0 [some (.ref 0), some (.int a1), some (.int a2), none, none, none, none] [] KM RM I L 0 0 := by
  unfold fX12_getsOf at hf
  refine j_aload_n hc dX12_getsOf_0 rfl ?_
  refine j_iconst (v := (0 : Int32)) hc dX12_getsOf_1 ci_0 ?_
  refine j_callVI (t := 0) (As := [.int (0 : Int32)]) hc dX12_getsOf_2 kw_1826 mX12_of kM_0 clX12 rfl (by omega) (Nat.le_of_ble_eq_true rfl) (Nat.le_of_ble_eq_true rfl) ⟨Nat.le_refl _, Nat.le_refl _⟩ hf (fun v I' L' h => qX12_of x.2.1 n d (0 : Int32) I L v I' L' h) (fun v1 I1 L1 hf => ?_)
  refine j_iload_n hc dX12_getsOf_5 rfl ?_
  refine j_iconst (v := (-1 : Int32)) hc dX12_getsOf_6 ci_m1 ?_
  refine j_ixor hc dX12_getsOf_7 ?_
  refine j_iand hc dX12_getsOf_8 ?_
  refine j_if_ne (tgt := 16) hc dX12_getsOf_9 rfl hf (fun hf => ?_) (fun hf => ?_)
  · refine j_iconst (v := (0 : Int32)) hc dX12_getsOf_16 ci_0 ?_
    exact j_sub (tX12_getsOf_b17 n d hc _ _ _ _ _ hf) (And.intro rfl (And.intro rfl (And.intro rfl (trivial))))
  · refine j_iconst (v := (1 : Int32)) hc dX12_getsOf_12 ci_1 ?_
    refine j_goto (tgt := 17) hc dX12_getsOf_13 rfl ?_
    exact j_sub (tX12_getsOf_b17 n d hc _ _ _ _ _ hf) (And.intro rfl (And.intro rfl (And.intro rfl (trivial))))

set_option maxRecDepth 100000 in
theorem qX12_getsOf (l : Launch) (n d : Nat) (a1 : Int32) (a2 : Int32) (I : am_I) (L : am_L) (r : Int32) (I' : am_I) (L' : am_L) (hf : fX12_getsOf n d a1 a2 I L = some (r, I', L')) : am_C l yX12_getsOf cX12_getsOf 7 (some .int) (d + 3) [.ref 0, .int a1, .int a2] KM RM I L (some (.int r)) I' L' := by
  exact am_intro (plainFor_of_name plX12) (fun _ _ => trivial) (Nat.le_of_ble_eq_true rfl) (fun x hl hc => by subst hl; exact j_sub (tX12_getsOf n d hc _ _ _ _ hf) (And.intro rfl (And.intro rfl (And.intro rfl (trivial)))))
set_option maxRecDepth 100000 in
def fX12_gets_b33 (n d : Nat) (I : am_I) (L : am_L) : Option (Int32 × am_I × am_L) :=
  some ((-1000000 : Int32), I, L)

set_option maxRecDepth 100000 in
set_option maxHeartbeats 4000000 in
theorem tX12_gets_b33 {x : am_X} (n d : Nat) (hc : am_ok x cX12_gets yX12_gets 3 (some .int) (d + 4) 0 0) {r : Int32} {I' : am_I} {L' : am_L} (I : am_I) (L : am_L) (hf : fX12_gets_b33 n d I L = some (r, I', L')) : am_J x (fun S => S = (some (.int r), KM, RM, I', L')) 33 [none, none, none] [] KM RM I L 0 0 := by
  unfold fX12_gets_b33 at hf
  refine j_ldcw (v := (-1000000 : Int32)) hc dX12_gets_33 kw_1917 ?_
  exact j_ireturn hc dX12_gets_36 rfl rfl hf

set_option maxRecDepth 100000 in
def fX12_gets (n d : Nat) (a1 : Int32) (a2 : Int32) (I : am_I) (L : am_L) : Option (Int32 × am_I × am_L) :=
  am_b3 (fX12_isMan n d a1 I L) (fun v1 I1 L1 => if v1 = 0 then
    (fX12_gets_b33 n d I1 L1)
    else
    (am_b3 (fX12_in n d a2 (0 : Int32) (((1 : Int32) <<< ((I1 0 25) &&& 31)) - (1 : Int32)) I1 L1) (fun v2 I2 L2 => if v2 = 0 then
      (fX12_gets_b33 n d I2 L2)
      else
      (am_b3 (fX12_getsOf n d a1 a2 I2 L2) (fun v3 I3 L3 => some (v3, I3, L3))))))

set_option maxRecDepth 100000 in
set_option maxHeartbeats 4000000 in
theorem tX12_gets {x : am_X} (n d : Nat) (hc : am_ok x cX12_gets yX12_gets 3 (some .int) (d + 4) 0 0) {r : Int32} {I' : am_I} {L' : am_L} (a1 : Int32) (a2 : Int32) (I : am_I) (L : am_L) (hf : fX12_gets n d a1 a2 I L = some (r, I', L')) : am_J x (fun S => S = (some (.int r), KM, RM, I', L')) 0 [some (.ref 0), some (.int a1), some (.int a2)] [] KM RM I L 0 0 := by
  unfold fX12_gets at hf
  refine j_aload_n hc dX12_gets_0 rfl ?_
  refine j_iload_n hc dX12_gets_1 rfl ?_
  refine j_callVI (t := 0) (As := [.int a1]) hc dX12_gets_2 kw_1768 mX12_isMan kM_0 clX12 rfl (by omega) (Nat.le_of_ble_eq_true rfl) (Nat.le_of_ble_eq_true rfl) ⟨Nat.le_refl _, Nat.le_refl _⟩ hf (fun v I' L' h => qX12_isMan x.2.1 n d a1 I L v I' L' h) (fun v1 I1 L1 hf => ?_)
  refine j_if_eq (tgt := 33) hc dX12_gets_5 rfl hf (fun hf => ?_) (fun hf => ?_)
  · exact j_sub (tX12_gets_b33 n d hc _ _ hf) (trivial)
  · refine j_iload_n hc dX12_gets_8 rfl ?_
    refine j_iconst (v := (0 : Int32)) hc dX12_gets_9 ci_0 ?_
    refine j_iconst (v := (1 : Int32)) hc dX12_gets_10 ci_1 ?_
    refine j_aload_n hc dX12_gets_11 rfl ?_
    refine j_getI hc dX12_gets_12 fgM_X12_250_0 ?_
    refine j_ishl hc dX12_gets_15 ?_
    refine j_iconst (v := (1 : Int32)) hc dX12_gets_16 ci_1 ?_
    refine j_isub hc dX12_gets_17 ?_
    refine j_callSI (As := [.int a2, .int (0 : Int32), .int (((1 : Int32) <<< ((I1 0 25) &&& 31)) - (1 : Int32))]) hc dX12_gets_18 kw_1671 mX12_in  rfl (by omega) (Nat.le_of_ble_eq_true rfl) (Nat.le_of_ble_eq_true rfl) ⟨Nat.le_refl _, Nat.le_refl _⟩ hf (fun v I' L' h => qX12_in x.2.1 n d a2 (0 : Int32) (((1 : Int32) <<< ((I1 0 25) &&& 31)) - (1 : Int32)) I1 L1 v I' L' h) (fun v2 I2 L2 hf => ?_)
    refine j_if_eq (tgt := 33) hc dX12_gets_21 rfl hf (fun hf => ?_) (fun hf => ?_)
    · exact j_sub (tX12_gets_b33 n d hc _ _ hf) (trivial)
    · refine j_aload_n hc dX12_gets_24 rfl ?_
      refine j_iload_n hc dX12_gets_25 rfl ?_
      refine j_iload_n hc dX12_gets_26 rfl ?_
      refine j_callVI (t := 0) (As := [.int a1, .int a2]) hc dX12_gets_27 kw_2058 mX12_getsOf kM_0 clX12 rfl (by omega) (Nat.le_of_ble_eq_true rfl) (Nat.le_of_ble_eq_true rfl) ⟨Nat.le_refl _, Nat.le_refl _⟩ hf (fun v I' L' h => qX12_getsOf x.2.1 n d a1 a2 I2 L2 v I' L' h) (fun v3 I3 L3 hf => ?_)
      refine j_goto (tgt := 36) hc dX12_gets_30 rfl ?_
      exact j_ireturn hc dX12_gets_36 rfl rfl hf

set_option maxRecDepth 100000 in
theorem qX12_gets (l : Launch) (n d : Nat) (a1 : Int32) (a2 : Int32) (I : am_I) (L : am_L) (r : Int32) (I' : am_I) (L' : am_L) (hf : fX12_gets n d a1 a2 I L = some (r, I', L')) : am_C l yX12_gets cX12_gets 3 (some .int) (d + 4) [.ref 0, .int a1, .int a2] KM RM I L (some (.int r)) I' L' := by
  exact am_intro (plainFor_of_name plX12) (fun _ _ => trivial) (Nat.le_of_ble_eq_true rfl) (fun x hl hc => by subst hl; exact j_sub (tX12_gets n d hc _ _ _ _ hf) (And.intro rfl (And.intro rfl (And.intro rfl (trivial)))))
set_option maxRecDepth 100000 in
def fX12_resting_b98 (n d : Nat) (k18 : Int32 → Int32 → Int32 → am_I → am_L → Option (Int32 × am_I × am_L)) (a1 : Int32) (a2 : Int32) (a3 : Int32) (I : am_I) (L : am_L) : Option (Int32 × am_I × am_L) :=
  am_lt (a3 + (1 : Int32)) (fun v1 => k18 a1 a2 v1 I L)

set_option maxRecDepth 100000 in
set_option maxHeartbeats 4000000 in
theorem tX12_resting_b98 {x : am_X} (n d : Nat) (hc : am_ok x cX12_resting yX12_resting 6 (some .int) (d + 4) 0 0) {r : Int32} {I' : am_I} {L' : am_L} (k18 : Int32 → Int32 → Int32 → am_I → am_L → Option (Int32 × am_I × am_L)) (hk18 : ∀ (a1 : Int32) (a2 : Int32) (a3 : Int32) (I : am_I) (L : am_L), k18 a1 a2 a3 I L = some (r, I', L') → am_J x (fun S => S = (some (.int r), KM, RM, I', L')) 18 [some (.ref 0), some (.int a1), some (.int a2), some (.int a3), none, none] [] KM RM I L 0 0) (a1 : Int32) (a2 : Int32) (a3 : Int32) (I : am_I) (L : am_L) (hf : fX12_resting_b98 n d k18 a1 a2 a3 I L = some (r, I', L')) : am_J x (fun S => S = (some (.int r), KM, RM, I', L')) 98 [some (.ref 0), some (.int a1), some (.int a2), some (.int a3), none, none] [] KM RM I L 0 0 := by
  unfold fX12_resting_b98 at hf
  refine j_iinc (w := (1 : Int32)) hc dX12_resting_98 rfl ci_1 (Nat.le_of_ble_eq_true rfl) hf (fun v1 hf => ?_)
  refine j_goto (tgt := 18) hc dX12_resting_101 rfl ?_
  exact j_sub (hk18 _ _ _ _ _ hf) (And.intro rfl (And.intro rfl (And.intro rfl (And.intro rfl (trivial)))))

set_option maxRecDepth 100000 in
def fX12_resting_b75 (n d : Nat) (k18 : Int32 → Int32 → Int32 → am_I → am_L → Option (Int32 × am_I × am_L)) (k34 : Int32 → Int32 → Int32 → Int32 → Int32 → am_I → am_L → Option (Int32 × am_I × am_L)) (s0 : Int32) (a1 : Int32) (a2 : Int32) (a3 : Int32) (a5 : Int32) (I : am_I) (L : am_L) : Option (Int32 × am_I × am_L) :=
  am_lt s0 (fun v1 => am_lt (a5 + (1 : Int32)) (fun v2 => k34 a1 a2 a3 v1 v2 I L))

set_option maxRecDepth 100000 in
set_option maxHeartbeats 4000000 in
theorem tX12_resting_b75 {x : am_X} (n d : Nat) (hc : am_ok x cX12_resting yX12_resting 6 (some .int) (d + 4) 0 0) {r : Int32} {I' : am_I} {L' : am_L} (k18 : Int32 → Int32 → Int32 → am_I → am_L → Option (Int32 × am_I × am_L)) (k34 : Int32 → Int32 → Int32 → Int32 → Int32 → am_I → am_L → Option (Int32 × am_I × am_L)) (hk18 : ∀ (a1 : Int32) (a2 : Int32) (a3 : Int32) (I : am_I) (L : am_L), k18 a1 a2 a3 I L = some (r, I', L') → am_J x (fun S => S = (some (.int r), KM, RM, I', L')) 18 [some (.ref 0), some (.int a1), some (.int a2), some (.int a3), none, none] [] KM RM I L 0 0) (hk34 : ∀ (a1 : Int32) (a2 : Int32) (a3 : Int32) (a4 : Int32) (a5 : Int32) (I : am_I) (L : am_L), k34 a1 a2 a3 a4 a5 I L = some (r, I', L') → am_J x (fun S => S = (some (.int r), KM, RM, I', L')) 34 [some (.ref 0), some (.int a1), some (.int a2), some (.int a3), some (.int a4), some (.int a5)] [] KM RM I L 0 0) (s0 : Int32) (a1 : Int32) (a2 : Int32) (a3 : Int32) (a5 : Int32) (I : am_I) (L : am_L) (hf : fX12_resting_b75 n d k18 k34 s0 a1 a2 a3 a5 I L = some (r, I', L')) : am_J x (fun S => S = (some (.int r), KM, RM, I', L')) 75 [some (.ref 0), some (.int a1), some (.int a2), some (.int a3), none, some (.int a5)] [.int s0] KM RM I L 0 0 := by
  unfold fX12_resting_b75 at hf
  refine j_istore hc dX12_resting_75 (Nat.le_of_ble_eq_true rfl) hf (fun v1 hf => ?_)
  refine j_iinc (w := (1 : Int32)) hc dX12_resting_77 rfl ci_1 (Nat.le_of_ble_eq_true rfl) hf (fun v2 hf => ?_)
  refine j_goto (tgt := 34) hc dX12_resting_80 rfl ?_
  exact j_sub (hk34 _ _ _ _ _ _ _ hf) (And.intro rfl (And.intro rfl (And.intro rfl (And.intro rfl (And.intro rfl (And.intro rfl (trivial)))))))

set_option maxRecDepth 100000 in
def fX12_resting_b74 (n d : Nat) (k18 : Int32 → Int32 → Int32 → am_I → am_L → Option (Int32 × am_I × am_L)) (k34 : Int32 → Int32 → Int32 → Int32 → Int32 → am_I → am_L → Option (Int32 × am_I × am_L)) (a1 : Int32) (a2 : Int32) (a3 : Int32) (a5 : Int32) (I : am_I) (L : am_L) : Option (Int32 × am_I × am_L) :=
  fX12_resting_b75 n d k18 k34 (0 : Int32) a1 a2 a3 a5 I L

set_option maxRecDepth 100000 in
set_option maxHeartbeats 4000000 in
theorem tX12_resting_b74 {x : am_X} (n d : Nat) (hc : am_ok x cX12_resting yX12_resting 6 (some .int) (d + 4) 0 0) {r : Int32} {I' : am_I} {L' : am_L} (k18 : Int32 → Int32 → Int32 → am_I → am_L → Option (Int32 × am_I × am_L)) (k34 : Int32 → Int32 → Int32 → Int32 → Int32 → am_I → am_L → Option (Int32 × am_I × am_L)) (hk18 : ∀ (a1 : Int32) (a2 : Int32) (a3 : Int32) (I : am_I) (L : am_L), k18 a1 a2 a3 I L = some (r, I', L') → am_J x (fun S => S = (some (.int r), KM, RM, I', L')) 18 [some (.ref 0), some (.int a1), some (.int a2), some (.int a3), none, none] [] KM RM I L 0 0) (hk34 : ∀ (a1 : Int32) (a2 : Int32) (a3 : Int32) (a4 : Int32) (a5 : Int32) (I : am_I) (L : am_L), k34 a1 a2 a3 a4 a5 I L = some (r, I', L') → am_J x (fun S => S = (some (.int r), KM, RM, I', L')) 34 [some (.ref 0), some (.int a1), some (.int a2), some (.int a3), some (.int a4), some (.int a5)] [] KM RM I L 0 0) (a1 : Int32) (a2 : Int32) (a3 : Int32) (a5 : Int32) (I : am_I) (L : am_L) (hf : fX12_resting_b74 n d k18 k34 a1 a2 a3 a5 I L = some (r, I', L')) : am_J x (fun S => S = (some (.int r), KM, RM, I', L')) 74 [some (.ref 0), some (.int a1), some (.int a2), some (.int a3), none, some (.int a5)] [] KM RM I L 0 0 := by
  unfold fX12_resting_b74 at hf
  refine j_iconst (v := (0 : Int32)) hc dX12_resting_74 ci_0 ?_
  exact j_sub (tX12_resting_b75 n d hc k18 k34 hk18 hk34 _ _ _ _ _ _ _ hf) (And.intro rfl (And.intro rfl (And.intro rfl (And.intro rfl (And.intro rfl (trivial))))))

set_option maxRecDepth 100000 in
def fX12_resting_b34w (n d : Nat) (k18 : Int32 → Int32 → Int32 → am_I → am_L → Option (Int32 × am_I × am_L)) (k34 : Int32 → Int32 → Int32 → Int32 → Int32 → am_I → am_L → Option (Int32 × am_I × am_L)) (a1 : Int32) (a2 : Int32) (a3 : Int32) (a4 : Int32) (a5 : Int32) (I : am_I) (L : am_L) : Option (Int32 × am_I × am_L) :=
  if (I 0 25) ≤ a5 then
    (if a4 = 0 then
      (fX12_resting_b98 n d k18 a1 a2 a3 I L)
      else
      (if a2 = a1 then
        (some (a3, I, L))
        else
        (am_lt (a2 + (1 : Int32)) (fun v1 => fX12_resting_b98 n d k18 a1 v1 a3 I L))))
    else
    (if a4 = 0 then
      (fX12_resting_b74 n d k18 k34 a1 a2 a3 a5 I L)
      else
      (am_b3 (fX12_getsOf n d a5 (a3 ^^^ ((1 : Int32) <<< (a5 &&& 31))) I L) (fun v2 I2 L2 => am_b3 (fX12_getsOf n d a5 a3 I2 L2) (fun v3 I3 L3 => if v3 < v2 then
        (fX12_resting_b74 n d k18 k34 a1 a2 a3 a5 I3 L3)
        else
        (fX12_resting_b75 n d k18 k34 (1 : Int32) a1 a2 a3 a5 I3 L3)))))

set_option maxRecDepth 100000 in
set_option maxHeartbeats 4000000 in
theorem tX12_resting_b34w {x : am_X} (n d : Nat) (hc : am_ok x cX12_resting yX12_resting 6 (some .int) (d + 4) 0 0) {r : Int32} {I' : am_I} {L' : am_L} (k18 : Int32 → Int32 → Int32 → am_I → am_L → Option (Int32 × am_I × am_L)) (k34 : Int32 → Int32 → Int32 → Int32 → Int32 → am_I → am_L → Option (Int32 × am_I × am_L)) (hk18 : ∀ (a1 : Int32) (a2 : Int32) (a3 : Int32) (I : am_I) (L : am_L), k18 a1 a2 a3 I L = some (r, I', L') → am_J x (fun S => S = (some (.int r), KM, RM, I', L')) 18 [some (.ref 0), some (.int a1), some (.int a2), some (.int a3), none, none] [] KM RM I L 0 0) (hk34 : ∀ (a1 : Int32) (a2 : Int32) (a3 : Int32) (a4 : Int32) (a5 : Int32) (I : am_I) (L : am_L), k34 a1 a2 a3 a4 a5 I L = some (r, I', L') → am_J x (fun S => S = (some (.int r), KM, RM, I', L')) 34 [some (.ref 0), some (.int a1), some (.int a2), some (.int a3), some (.int a4), some (.int a5)] [] KM RM I L 0 0) (a1 : Int32) (a2 : Int32) (a3 : Int32) (a4 : Int32) (a5 : Int32) (I : am_I) (L : am_L) (hf : fX12_resting_b34w n d k18 k34 a1 a2 a3 a4 a5 I L = some (r, I', L')) : am_J x (fun S => S = (some (.int r), KM, RM, I', L')) 34 [some (.ref 0), some (.int a1), some (.int a2), some (.int a3), some (.int a4), some (.int a5)] [] KM RM I L 0 0 := by
  unfold fX12_resting_b34w at hf
  refine j_iload hc dX12_resting_34 rfl ?_
  refine j_aload_n hc dX12_resting_36 rfl ?_
  refine j_getI hc dX12_resting_37 fgM_X12_250_0 ?_
  refine j_icmp_ge (tgt := 83) hc dX12_resting_40 rfl hf (fun hf => ?_) (fun hf => ?_)
  · refine j_iload hc dX12_resting_83 rfl ?_
    refine j_if_eq (tgt := 98) hc dX12_resting_85 rfl hf (fun hf => ?_) (fun hf => ?_)
    · exact j_sub (tX12_resting_b98 n d hc k18 hk18 _ _ _ _ _ hf) (And.intro rfl (And.intro rfl (And.intro rfl (And.intro rfl (trivial)))))
    · refine j_iload_n hc dX12_resting_88 rfl ?_
      refine j_iload_n hc dX12_resting_89 rfl ?_
      refine j_icmp_ne (tgt := 95) hc dX12_resting_90 rfl hf (fun hf => ?_) (fun hf => ?_)
      · refine j_iinc (w := (1 : Int32)) hc dX12_resting_95 rfl ci_1 (Nat.le_of_ble_eq_true rfl) hf (fun v1 hf => ?_)
        exact j_sub (tX12_resting_b98 n d hc k18 hk18 _ _ _ _ _ hf) (And.intro rfl (And.intro rfl (And.intro rfl (And.intro rfl (trivial)))))
      · refine j_iload_n hc dX12_resting_93 rfl ?_
        exact j_ireturn hc dX12_resting_94 rfl rfl hf
  · refine j_iload hc dX12_resting_43 rfl ?_
    refine j_if_eq (tgt := 74) hc dX12_resting_45 rfl hf (fun hf => ?_) (fun hf => ?_)
    · exact j_sub (tX12_resting_b74 n d hc k18 k34 hk18 hk34 _ _ _ _ _ _ hf) (And.intro rfl (And.intro rfl (And.intro rfl (And.intro rfl (And.intro rfl (trivial))))))
    · refine j_aload_n hc dX12_resting_48 rfl ?_
      refine j_iload hc dX12_resting_49 rfl ?_
      refine j_iload_n hc dX12_resting_51 rfl ?_
      refine j_iconst (v := (1 : Int32)) hc dX12_resting_52 ci_1 ?_
      refine j_iload hc dX12_resting_53 rfl ?_
      refine j_ishl hc dX12_resting_55 ?_
      refine j_ixor hc dX12_resting_56 ?_
      refine j_callVI (t := 0) (As := [.int a5, .int (a3 ^^^ ((1 : Int32) <<< (a5 &&& 31)))]) hc dX12_resting_57 kw_2058 mX12_getsOf kM_0 clX12 rfl (by omega) (Nat.le_of_ble_eq_true rfl) (Nat.le_of_ble_eq_true rfl) ⟨Nat.le_refl _, Nat.le_refl _⟩ hf (fun v I' L' h => qX12_getsOf x.2.1 n d a5 (a3 ^^^ ((1 : Int32) <<< (a5 &&& 31))) I L v I' L' h) (fun v2 I2 L2 hf => ?_)
      refine j_aload_n hc dX12_resting_60 rfl ?_
      refine j_iload hc dX12_resting_61 rfl ?_
      refine j_iload_n hc dX12_resting_63 rfl ?_
      refine j_callVI (t := 0) (As := [.int a5, .int a3]) hc dX12_resting_64 kw_2058 mX12_getsOf kM_0 clX12 rfl (by omega) (Nat.le_of_ble_eq_true rfl) (Nat.le_of_ble_eq_true rfl) ⟨Nat.le_refl _, Nat.le_refl _⟩ hf (fun v I' L' h => qX12_getsOf x.2.1 n d a5 a3 I2 L2 v I' L' h) (fun v3 I3 L3 hf => ?_)
      refine j_icmp_gt (tgt := 74) hc dX12_resting_67 rfl hf (fun hf => ?_) (fun hf => ?_)
      · exact j_sub (tX12_resting_b74 n d hc k18 k34 hk18 hk34 _ _ _ _ _ _ hf) (And.intro rfl (And.intro rfl (And.intro rfl (And.intro rfl (And.intro rfl (trivial))))))
      · refine j_iconst (v := (1 : Int32)) hc dX12_resting_70 ci_1 ?_
        refine j_goto (tgt := 75) hc dX12_resting_71 rfl ?_
        exact j_sub (tX12_resting_b75 n d hc k18 k34 hk18 hk34 _ _ _ _ _ _ _ hf) (And.intro rfl (And.intro rfl (And.intro rfl (And.intro rfl (And.intro rfl (trivial))))))

def fX12_resting_b34 (n d : Nat) (k18 : Int32 → Int32 → Int32 → am_I → am_L → Option (Int32 × am_I × am_L)) : Nat → Int32 → Int32 → Int32 → Int32 → Int32 → am_I → am_L → Option (Int32 × am_I × am_L)
  | 0 => fun _ _ _ _ _ _ _ => none
  | m + 1 => fX12_resting_b34w n d  k18 (fX12_resting_b34 n d k18 m)

set_option maxRecDepth 100000 in
theorem tX12_resting_b34 {x : am_X} (n d : Nat) (hc : am_ok x cX12_resting yX12_resting 6 (some .int) (d + 4) 0 0) {r : Int32} {I' : am_I} {L' : am_L} (k18 : Int32 → Int32 → Int32 → am_I → am_L → Option (Int32 × am_I × am_L)) (hk18 : ∀ (a1 : Int32) (a2 : Int32) (a3 : Int32) (I : am_I) (L : am_L), k18 a1 a2 a3 I L = some (r, I', L') → am_J x (fun S => S = (some (.int r), KM, RM, I', L')) 18 [some (.ref 0), some (.int a1), some (.int a2), some (.int a3), none, none] [] KM RM I L 0 0) (m : Nat) : ∀ (a1 : Int32) (a2 : Int32) (a3 : Int32) (a4 : Int32) (a5 : Int32) (I : am_I) (L : am_L) (hf : fX12_resting_b34 n d k18 m a1 a2 a3 a4 a5 I L = some (r, I', L')), am_J x (fun S => S = (some (.int r), KM, RM, I', L')) 34 [some (.ref 0), some (.int a1), some (.int a2), some (.int a3), some (.int a4), some (.int a5)] [] KM RM I L 0 0 := by
  induction m with
  | zero => intro a1 a2 a3 a4 a5 I L hf; exact (Option.some_ne_none _ hf.symm).elim
  | succ m ih => intro a1 a2 a3 a4 a5 I L hf; exact tX12_resting_b34w n d hc k18 (fX12_resting_b34 n d k18 m) hk18 ih a1 a2 a3 a4 a5 I L hf

set_option maxRecDepth 100000 in
def fX12_resting_b18w (n d : Nat) (k18 : Int32 → Int32 → Int32 → am_I → am_L → Option (Int32 × am_I × am_L)) (a1 : Int32) (a2 : Int32) (a3 : Int32) (I : am_I) (L : am_L) : Option (Int32 × am_I × am_L) :=
  if ((1 : Int32) <<< ((I 0 25) &&& 31)) ≤ a3 then
    (if a1 = (-1 : Int32) then
      (some (a2, I, L))
      else
      (some ((-1 : Int32), I, L)))
    else
    (am_lt (1 : Int32) (fun v1 => am_lt (0 : Int32) (fun v2 => fX12_resting_b34 n d k18 n a1 a2 a3 v1 v2 I L)))

set_option maxRecDepth 100000 in
set_option maxHeartbeats 4000000 in
theorem tX12_resting_b18w {x : am_X} (n d : Nat) (hc : am_ok x cX12_resting yX12_resting 6 (some .int) (d + 4) 0 0) {r : Int32} {I' : am_I} {L' : am_L} (k18 : Int32 → Int32 → Int32 → am_I → am_L → Option (Int32 × am_I × am_L)) (hk18 : ∀ (a1 : Int32) (a2 : Int32) (a3 : Int32) (I : am_I) (L : am_L), k18 a1 a2 a3 I L = some (r, I', L') → am_J x (fun S => S = (some (.int r), KM, RM, I', L')) 18 [some (.ref 0), some (.int a1), some (.int a2), some (.int a3), none, none] [] KM RM I L 0 0) (a1 : Int32) (a2 : Int32) (a3 : Int32) (I : am_I) (L : am_L) (hf : fX12_resting_b18w n d k18 a1 a2 a3 I L = some (r, I', L')) : am_J x (fun S => S = (some (.int r), KM, RM, I', L')) 18 [some (.ref 0), some (.int a1), some (.int a2), some (.int a3), none, none] [] KM RM I L 0 0 := by
  unfold fX12_resting_b18w at hf
  refine j_iload_n hc dX12_resting_18 rfl ?_
  refine j_iconst (v := (1 : Int32)) hc dX12_resting_19 ci_1 ?_
  refine j_aload_n hc dX12_resting_20 rfl ?_
  refine j_getI hc dX12_resting_21 fgM_X12_250_0 ?_
  refine j_ishl hc dX12_resting_24 ?_
  refine j_icmp_ge (tgt := 104) hc dX12_resting_25 rfl hf (fun hf => ?_) (fun hf => ?_)
  · refine j_iload_n hc dX12_resting_104 rfl ?_
    refine j_iconst (v := (-1 : Int32)) hc dX12_resting_105 ci_m1 ?_
    refine j_icmp_ne (tgt := 113) hc dX12_resting_106 rfl hf (fun hf => ?_) (fun hf => ?_)
    · refine j_iconst (v := (-1 : Int32)) hc dX12_resting_113 ci_m1 ?_
      exact j_ireturn hc dX12_resting_114 rfl rfl hf
    · refine j_iload_n hc dX12_resting_109 rfl ?_
      refine j_goto (tgt := 114) hc dX12_resting_110 rfl ?_
      exact j_ireturn hc dX12_resting_114 rfl rfl hf
  · refine j_iconst (v := (1 : Int32)) hc dX12_resting_28 ci_1 ?_
    refine j_istore hc dX12_resting_29 (Nat.le_of_ble_eq_true rfl) hf (fun v1 hf => ?_)
    refine j_iconst (v := (0 : Int32)) hc dX12_resting_31 ci_0 ?_
    refine j_istore hc dX12_resting_32 (Nat.le_of_ble_eq_true rfl) hf (fun v2 hf => ?_)
    exact j_sub (tX12_resting_b34 n d hc k18 hk18 n _ _ _ _ _ _ _ hf) (And.intro rfl (And.intro rfl (And.intro rfl (And.intro rfl (And.intro rfl (And.intro rfl (trivial)))))))

def fX12_resting_b18 (n d : Nat) : Nat → Int32 → Int32 → Int32 → am_I → am_L → Option (Int32 × am_I × am_L)
  | 0 => fun _ _ _ _ _ => none
  | m + 1 => fX12_resting_b18w n d  (fX12_resting_b18 n d m)

set_option maxRecDepth 100000 in
theorem tX12_resting_b18 {x : am_X} (n d : Nat) (hc : am_ok x cX12_resting yX12_resting 6 (some .int) (d + 4) 0 0) {r : Int32} {I' : am_I} {L' : am_L} (m : Nat) : ∀ (a1 : Int32) (a2 : Int32) (a3 : Int32) (I : am_I) (L : am_L) (hf : fX12_resting_b18 n d m a1 a2 a3 I L = some (r, I', L')), am_J x (fun S => S = (some (.int r), KM, RM, I', L')) 18 [some (.ref 0), some (.int a1), some (.int a2), some (.int a3), none, none] [] KM RM I L 0 0 := by
  induction m with
  | zero => intro a1 a2 a3 I L hf; exact (Option.some_ne_none _ hf.symm).elim
  | succ m ih => intro a1 a2 a3 I L hf; exact tX12_resting_b18w n d hc (fX12_resting_b18 n d m) ih a1 a2 a3 I L hf

set_option maxRecDepth 100000 in
def fX12_resting (n d : Nat) (a1 : Int32) (I : am_I) (L : am_L) : Option (Int32 × am_I × am_L) :=
  if (I 0 25) = 0 then
    (some ((-1 : Int32), I, L))
    else
    (if (-1 : Int32) ≤ a1 then
      (am_lt (0 : Int32) (fun v1 => am_lt (0 : Int32) (fun v2 => fX12_resting_b18 n d n a1 v1 v2 I L)))
      else
      (some ((-1 : Int32), I, L)))

set_option maxRecDepth 100000 in
set_option maxHeartbeats 4000000 in
theorem tX12_resting {x : am_X} (n d : Nat) (hc : am_ok x cX12_resting yX12_resting 6 (some .int) (d + 4) 0 0) {r : Int32} {I' : am_I} {L' : am_L} (a1 : Int32) (I : am_I) (L : am_L) (hf : fX12_resting n d a1 I L = some (r, I', L')) : am_J x (fun S => S = (some (.int r), KM, RM, I', L')) 0 [some (.ref 0), some (.int a1), none, none, none, none] [] KM RM I L 0 0 := by
  unfold fX12_resting at hf
  refine j_aload_n hc dX12_resting_0 rfl ?_
  refine j_getI hc dX12_resting_1 fgM_X12_250_0 ?_
  refine j_if_eq (tgt := 12) hc dX12_resting_4 rfl hf (fun hf => ?_) (fun hf => ?_)
  · refine j_iconst (v := (-1 : Int32)) hc dX12_resting_12 ci_m1 ?_
    exact j_ireturn hc dX12_resting_13 rfl rfl hf
  · refine j_iload_n hc dX12_resting_7 rfl ?_
    refine j_iconst (v := (-1 : Int32)) hc dX12_resting_8 ci_m1 ?_
    refine j_icmp_ge (tgt := 14) hc dX12_resting_9 rfl hf (fun hf => ?_) (fun hf => ?_)
    · refine j_iconst (v := (0 : Int32)) hc dX12_resting_14 ci_0 ?_
      refine j_istore_n hc dX12_resting_15 (Nat.le_of_ble_eq_true rfl) hf (fun v1 hf => ?_)
      refine j_iconst (v := (0 : Int32)) hc dX12_resting_16 ci_0 ?_
      refine j_istore_n hc dX12_resting_17 (Nat.le_of_ble_eq_true rfl) hf (fun v2 hf => ?_)
      exact j_sub (tX12_resting_b18 n d hc n _ _ _ _ _ hf) (And.intro rfl (And.intro rfl (And.intro rfl (And.intro rfl (trivial)))))
    · refine j_iconst (v := (-1 : Int32)) hc dX12_resting_12 ci_m1 ?_
      exact j_ireturn hc dX12_resting_13 rfl rfl hf

set_option maxRecDepth 100000 in
theorem qX12_resting (l : Launch) (n d : Nat) (a1 : Int32) (I : am_I) (L : am_L) (r : Int32) (I' : am_I) (L' : am_L) (hf : fX12_resting n d a1 I L = some (r, I', L')) : am_C l yX12_resting cX12_resting 6 (some .int) (d + 4) [.ref 0, .int a1] KM RM I L (some (.int r)) I' L' := by
  exact am_intro (plainFor_of_name plX12) (fun _ _ => trivial) (Nat.le_of_ble_eq_true rfl) (fun x hl hc => by subst hl; exact j_sub (tX12_resting n d hc _ _ _ hf) (And.intro rfl (And.intro rfl (trivial))))
