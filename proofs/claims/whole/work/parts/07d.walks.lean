set_option maxRecDepth 100000 in
def fX12_isHomeBy (n d : Nat) (a1 : Int32) (a2 : Int32) (I : am_I) (L : am_L) : Option (Int32 × am_I × am_L) :=
  if a2 = (-1 : Int32) then
    (am_ck ((0 : Int32) + a1) 206 (am_lt (I 17 (((0 : Int32) + a1)).toNatClampNeg) (fun v14 => if v14 = 0 then
      (some ((1 : Int32), I, L))
      else
      (some ((0 : Int32), I, L)))))
    else
    (am_ck ((0 : Int32) + a1) 206 (am_lt (I 17 (((0 : Int32) + a1)).toNatClampNeg) (fun v1 => am_ck (0 : Int32) 6 (am_lt (am_up I 9 ((0 : Int32)).toNatClampNeg v1) (fun I2 => am_ck (((6 : Int32) * a1) + (3 : Int32)) 48 (am_lt (I2 14 ((((6 : Int32) * a1) + (3 : Int32))).toNatClampNeg) (fun v3 => am_ck (1 : Int32) 6 (am_lt (am_up I2 9 ((1 : Int32)).toNatClampNeg v3) (fun I4 => am_ck (((6 : Int32) * a1) + (4 : Int32)) 48 (am_lt (I4 14 ((((6 : Int32) * a1) + (4 : Int32))).toNatClampNeg) (fun v5 => am_ck (2 : Int32) 6 (am_lt (am_up I4 9 ((2 : Int32)).toNatClampNeg v5) (fun I6 => am_ck (((6 : Int32) * a1) + (5 : Int32)) 48 (am_lt (I6 14 ((((6 : Int32) * a1) + (5 : Int32))).toNatClampNeg) (fun v7 => am_ck (3 : Int32) 6 (am_lt (am_up I6 9 ((3 : Int32)).toNatClampNeg v7) (fun I8 => am_ck (24 : Int32) 206 (am_lt (I8 17 ((24 : Int32)).toNatClampNeg) (fun v9 => am_ck (4 : Int32) 6 (am_lt (am_up I8 9 ((4 : Int32)).toNatClampNeg v9) (fun I10 => am_b3 (fX12_side n d a1 I10 L) (fun v11 I11 L11 => am_ck (5 : Int32) 6 (am_lt (am_up I11 9 ((5 : Int32)).toNatClampNeg v11) (fun I12 => am_b3 (fX12_worthOf n d a2 I12 L11) (fun v13 I13 L13 => if v13 ≤ 0 then
      (some ((0 : Int32), I13, L13))
      else
      (some ((1 : Int32), I13, L13)))))))))))))))))))))))))))

set_option maxRecDepth 100000 in
set_option maxHeartbeats 4000000 in
theorem tX12_isHomeBy {x : am_X} (n d : Nat) (hc : am_ok x cX12_isHomeBy yX12_isHomeBy 3 (some .boolean) (d + 6) 0 0) {r : Int32} {I' : am_I} {L' : am_L} (a1 : Int32) (a2 : Int32) (I : am_I) (L : am_L) (hf : fX12_isHomeBy n d a1 a2 I L = some (r, I', L')) : am_J x (fun S => S = (some (.int r), KM, RM, I', L')) 0 [some (.ref 0), some (.int a1), some (.int a2)] [] KM RM I L 0 0 := by
  unfold fX12_isHomeBy at hf
  refine j_iload_n hc dX12_isHomeBy_0 rfl ?_
  refine j_iconst (v := (-1 : Int32)) hc dX12_isHomeBy_1 ci_m1 ?_
  refine j_icmp_ne (tgt := 22) hc dX12_isHomeBy_2 rfl hf (fun hf => ?_) (fun hf => ?_)
  · refine j_aload_n hc dX12_isHomeBy_22 rfl ?_
    refine j_getR (u := 9) hc dX12_isHomeBy_23 fgM_X12_34_0 rM_0_15 ?_
    refine j_iconst (v := (0 : Int32)) hc dX12_isHomeBy_26 ci_0 ?_
    refine j_aload_n hc dX12_isHomeBy_27 rfl ?_
    refine j_getR (u := 17) hc dX12_isHomeBy_28 fgM_X12_58_0 rM_0_27 ?_
    refine j_iconst (v := (0 : Int32)) hc dX12_isHomeBy_31 ci_0 ?_
    refine j_iload_n hc dX12_isHomeBy_32 rfl ?_
    refine j_iadd hc dX12_isHomeBy_33 ?_
    refine j_iaload (n := 206) hc dX12_isHomeBy_34 kM_17 hf (fun v1 hf => ?_)
    refine j_iastore (n := 6) hc dX12_isHomeBy_35 kM_9 hf (fun I2 hf => ?_)
    refine j_aload_n hc dX12_isHomeBy_36 rfl ?_
    refine j_getR (u := 9) hc dX12_isHomeBy_37 fgM_X12_34_0 rM_0_15 ?_
    refine j_iconst (v := (1 : Int32)) hc dX12_isHomeBy_40 ci_1 ?_
    refine j_aload_n hc dX12_isHomeBy_41 rfl ?_
    refine j_getR (u := 14) hc dX12_isHomeBy_42 fgM_X12_49_0 rM_0_22 ?_
    refine j_bipush (v := (6 : Int32)) hc dX12_isHomeBy_45 cb_6 ?_
    refine j_iload_n hc dX12_isHomeBy_47 rfl ?_
    refine j_imul hc dX12_isHomeBy_48 ?_
    refine j_iconst (v := (3 : Int32)) hc dX12_isHomeBy_49 ci_3 ?_
    refine j_iadd hc dX12_isHomeBy_50 ?_
    refine j_iaload (n := 48) hc dX12_isHomeBy_51 kM_14 hf (fun v3 hf => ?_)
    refine j_iastore (n := 6) hc dX12_isHomeBy_52 kM_9 hf (fun I4 hf => ?_)
    refine j_aload_n hc dX12_isHomeBy_53 rfl ?_
    refine j_getR (u := 9) hc dX12_isHomeBy_54 fgM_X12_34_0 rM_0_15 ?_
    refine j_iconst (v := (2 : Int32)) hc dX12_isHomeBy_57 ci_2 ?_
    refine j_aload_n hc dX12_isHomeBy_58 rfl ?_
    refine j_getR (u := 14) hc dX12_isHomeBy_59 fgM_X12_49_0 rM_0_22 ?_
    refine j_bipush (v := (6 : Int32)) hc dX12_isHomeBy_62 cb_6 ?_
    refine j_iload_n hc dX12_isHomeBy_64 rfl ?_
    refine j_imul hc dX12_isHomeBy_65 ?_
    refine j_iconst (v := (4 : Int32)) hc dX12_isHomeBy_66 ci_4 ?_
    refine j_iadd hc dX12_isHomeBy_67 ?_
    refine j_iaload (n := 48) hc dX12_isHomeBy_68 kM_14 hf (fun v5 hf => ?_)
    refine j_iastore (n := 6) hc dX12_isHomeBy_69 kM_9 hf (fun I6 hf => ?_)
    refine j_aload_n hc dX12_isHomeBy_70 rfl ?_
    refine j_getR (u := 9) hc dX12_isHomeBy_71 fgM_X12_34_0 rM_0_15 ?_
    refine j_iconst (v := (3 : Int32)) hc dX12_isHomeBy_74 ci_3 ?_
    refine j_aload_n hc dX12_isHomeBy_75 rfl ?_
    refine j_getR (u := 14) hc dX12_isHomeBy_76 fgM_X12_49_0 rM_0_22 ?_
    refine j_bipush (v := (6 : Int32)) hc dX12_isHomeBy_79 cb_6 ?_
    refine j_iload_n hc dX12_isHomeBy_81 rfl ?_
    refine j_imul hc dX12_isHomeBy_82 ?_
    refine j_iconst (v := (5 : Int32)) hc dX12_isHomeBy_83 ci_5 ?_
    refine j_iadd hc dX12_isHomeBy_84 ?_
    refine j_iaload (n := 48) hc dX12_isHomeBy_85 kM_14 hf (fun v7 hf => ?_)
    refine j_iastore (n := 6) hc dX12_isHomeBy_86 kM_9 hf (fun I8 hf => ?_)
    refine j_aload_n hc dX12_isHomeBy_87 rfl ?_
    refine j_getR (u := 9) hc dX12_isHomeBy_88 fgM_X12_34_0 rM_0_15 ?_
    refine j_iconst (v := (4 : Int32)) hc dX12_isHomeBy_91 ci_4 ?_
    refine j_aload_n hc dX12_isHomeBy_92 rfl ?_
    refine j_getR (u := 17) hc dX12_isHomeBy_93 fgM_X12_58_0 rM_0_27 ?_
    refine j_bipush (v := (24 : Int32)) hc dX12_isHomeBy_96 cb_24 ?_
    refine j_iaload (n := 206) hc dX12_isHomeBy_98 kM_17 hf (fun v9 hf => ?_)
    refine j_iastore (n := 6) hc dX12_isHomeBy_99 kM_9 hf (fun I10 hf => ?_)
    refine j_aload_n hc dX12_isHomeBy_100 rfl ?_
    refine j_getR (u := 9) hc dX12_isHomeBy_101 fgM_X12_34_0 rM_0_15 ?_
    refine j_iconst (v := (5 : Int32)) hc dX12_isHomeBy_104 ci_5 ?_
    refine j_aload_n hc dX12_isHomeBy_105 rfl ?_
    refine j_iload_n hc dX12_isHomeBy_106 rfl ?_
    refine j_callVI (t := 0) (As := [.int a1]) hc dX12_isHomeBy_107 kw_1780 mX12_side kM_0 clX12 rfl (by omega) (Nat.le_of_ble_eq_true rfl) (Nat.le_of_ble_eq_true rfl) ⟨Nat.le_refl _, Nat.le_refl _⟩ hf (fun v I' L' h => qX12_side x.2.1 n d a1 I10 L v I' L' h) (fun v11 I11 L11 hf => ?_)
    refine j_iastore (n := 6) hc dX12_isHomeBy_110 kM_9 hf (fun I12 hf => ?_)
    refine j_aload_n hc dX12_isHomeBy_111 rfl ?_
    refine j_iload_n hc dX12_isHomeBy_112 rfl ?_
    refine j_callVI (t := 0) (As := [.int a2]) hc dX12_isHomeBy_113 kw_1784 mX12_worthOf kM_0 clX12 rfl (by omega) (Nat.le_of_ble_eq_true rfl) (Nat.le_of_ble_eq_true rfl) ⟨Nat.le_refl _, Nat.le_refl _⟩ hf (fun v I' L' h => qX12_worthOf x.2.1 n d a2 I12 L11 v I' L' h) (fun v13 I13 L13 hf => ?_)
    refine j_if_le (tgt := 123) hc dX12_isHomeBy_116 rfl hf (fun hf => ?_) (fun hf => ?_)
    · refine j_iconst (v := (0 : Int32)) hc dX12_isHomeBy_123 ci_0 ?_
      exact j_zret hc dX12_isHomeBy_124 rfl rfl (Or.inl rfl) hf
    · refine j_iconst (v := (1 : Int32)) hc dX12_isHomeBy_119 ci_1 ?_
      refine j_goto (tgt := 124) hc dX12_isHomeBy_120 rfl ?_
      exact j_zret hc dX12_isHomeBy_124 rfl rfl (Or.inr rfl) hf
  · refine j_aload_n hc dX12_isHomeBy_5 rfl ?_
    refine j_getR (u := 17) hc dX12_isHomeBy_6 fgM_X12_58_0 rM_0_27 ?_
    refine j_iconst (v := (0 : Int32)) hc dX12_isHomeBy_9 ci_0 ?_
    refine j_iload_n hc dX12_isHomeBy_10 rfl ?_
    refine j_iadd hc dX12_isHomeBy_11 ?_
    refine j_iaload (n := 206) hc dX12_isHomeBy_12 kM_17 hf (fun v14 hf => ?_)
    refine j_if_ne (tgt := 20) hc dX12_isHomeBy_13 rfl hf (fun hf => ?_) (fun hf => ?_)
    · refine j_iconst (v := (0 : Int32)) hc dX12_isHomeBy_20 ci_0 ?_
      exact j_zret hc dX12_isHomeBy_21 rfl rfl (Or.inl rfl) hf
    · refine j_iconst (v := (1 : Int32)) hc dX12_isHomeBy_16 ci_1 ?_
      refine j_goto (tgt := 21) hc dX12_isHomeBy_17 rfl ?_
      exact j_zret hc dX12_isHomeBy_21 rfl rfl (Or.inr rfl) hf

set_option maxRecDepth 100000 in
theorem qX12_isHomeBy (l : Launch) (n d : Nat) (a1 : Int32) (a2 : Int32) (I : am_I) (L : am_L) (r : Int32) (I' : am_I) (L' : am_L) (hf : fX12_isHomeBy n d a1 a2 I L = some (r, I', L')) : am_C l yX12_isHomeBy cX12_isHomeBy 3 (some .boolean) (d + 6) [.ref 0, .int a1, .int a2] KM RM I L (some (.int r)) I' L' := by
  exact am_intro (plainFor_of_name plX12) (fun _ _ => trivial) (Nat.le_of_ble_eq_true rfl) (fun x hl hc => by subst hl; exact j_sub (tX12_isHomeBy n d hc _ _ _ _ hf) (And.intro rfl (And.intro rfl (And.intro rfl (trivial)))))
set_option maxRecDepth 100000 in
def fX12_isHome (n d : Nat) (a1 : Int32) (I : am_I) (L : am_L) : Option (Int32 × am_I × am_L) :=
  am_b3 (fX12_isHomeBy n d a1 (I 0 28) I L) (fun v1 I1 L1 => am_bl v1 (some (v1, I1, L1)))

set_option maxRecDepth 100000 in
set_option maxHeartbeats 4000000 in
theorem tX12_isHome {x : am_X} (n d : Nat) (hc : am_ok x cX12_isHome yX12_isHome 2 (some .boolean) (d + 7) 0 0) {r : Int32} {I' : am_I} {L' : am_L} (a1 : Int32) (I : am_I) (L : am_L) (hf : fX12_isHome n d a1 I L = some (r, I', L')) : am_J x (fun S => S = (some (.int r), KM, RM, I', L')) 0 [some (.ref 0), some (.int a1)] [] KM RM I L 0 0 := by
  unfold fX12_isHome at hf
  refine j_aload_n hc dX12_isHome_0 rfl ?_
  refine j_iload_n hc dX12_isHome_1 rfl ?_
  refine j_aload_n hc dX12_isHome_2 rfl ?_
  refine j_getI hc dX12_isHome_3 fgM_X12_61_0 ?_
  refine j_callVI (t := 0) (As := [.int a1, .int (I 0 28)]) hc dX12_isHome_6 kw_1776 mX12_isHomeBy kM_0 clX12 rfl (by omega) (Nat.le_of_ble_eq_true rfl) (Nat.le_of_ble_eq_true rfl) ⟨Nat.le_refl _, Nat.le_refl _⟩ hf (fun v I' L' h => qX12_isHomeBy x.2.1 n d a1 (I 0 28) I L v I' L' h) (fun v1 I1 L1 hf => ?_)
  exact j_zreturn hc dX12_isHome_9 rfl rfl hf

set_option maxRecDepth 100000 in
theorem qX12_isHome (l : Launch) (n d : Nat) (a1 : Int32) (I : am_I) (L : am_L) (r : Int32) (I' : am_I) (L' : am_L) (hf : fX12_isHome n d a1 I L = some (r, I', L')) : am_C l yX12_isHome cX12_isHome 2 (some .boolean) (d + 7) [.ref 0, .int a1] KM RM I L (some (.int r)) I' L' := by
  exact am_intro (plainFor_of_name plX12) (fun _ _ => trivial) (Nat.le_of_ble_eq_true rfl) (fun x hl hc => by subst hl; exact j_sub (tX12_isHome n d hc _ _ _ hf) (And.intro rfl (And.intro rfl (trivial))))
set_option maxRecDepth 100000 in
def fX12_man_b24 (n d : Nat) (s1 : Int32) (a1 : Int32) (a2 : Int32) (I : am_I) (L : am_L) : Option (Int32 × am_I × am_L) :=
  am_lt (am_up I 0 0 s1) (fun I1 => if (I1 0 0) = (1 : Int32) then
    (some ((0 : Int32), I1, L))
    else
    (am_sw a2 1 [am_ck ((0 : Int32) + a1) 206 (am_lt (I1 17 (((0 : Int32) + a1)).toNatClampNeg) (fun v3 => some (v3, I1, L))), am_ck (((6 : Int32) * a1) + a2) 48 (am_lt (I1 14 ((((6 : Int32) * a1) + a2)).toNatClampNeg) (fun v4 => some (v4, I1, L))), am_ck (((6 : Int32) * a1) + a2) 48 (am_lt (I1 14 ((((6 : Int32) * a1) + a2)).toNatClampNeg) (fun v5 => some (v5, I1, L))), am_ck (((6 : Int32) * a1) + a2) 48 (am_lt (I1 14 ((((6 : Int32) * a1) + a2)).toNatClampNeg) (fun v6 => some (v6, I1, L))), am_ck (((6 : Int32) * a1) + a2) 48 (am_lt (I1 14 ((((6 : Int32) * a1) + a2)).toNatClampNeg) (fun v7 => some (v7, I1, L))), am_ck ((8 : Int32) + a1) 206 (am_lt (I1 17 (((8 : Int32) + a1)).toNatClampNeg) (fun v8 => some (v8, I1, L))), am_ck ((16 : Int32) + a1) 206 (am_lt (I1 17 (((16 : Int32) + a1)).toNatClampNeg) (fun v9 => some (v9, I1, L))), am_b3 (fX12_isHome n d a1 I1 L) (fun v10 I10 L10 => if v10 = 0 then
          (some ((0 : Int32), I10, L10))
          else
          (some ((1 : Int32), I10, L10)))] (am_ck (((6 : Int32) * a1) + a2) 48 (am_lt (I1 14 ((((6 : Int32) * a1) + a2)).toNatClampNeg) (fun v2 => some (v2, I1, L))))))

set_option maxRecDepth 100000 in
set_option maxHeartbeats 4000000 in
theorem tX12_man_b24 {x : am_X} (n d : Nat) (hc : am_ok x cX12_man yX12_man 3 (some .int) (d + 8) 0 0) {r : Int32} {I' : am_I} {L' : am_L} (s1 : Int32) (a1 : Int32) (a2 : Int32) (I : am_I) (L : am_L) (hf : fX12_man_b24 n d s1 a1 a2 I L = some (r, I', L')) : am_J x (fun S => S = (some (.int r), KM, RM, I', L')) 24 [some (.ref 0), some (.int a1), some (.int a2)] [.int s1, .ref 0] KM RM I L 0 0 := by
  unfold fX12_man_b24 at hf
  refine j_putI hc dX12_man_24 fpM_X12_91_0 rfl rfl hf (fun I1 hf => ?_)
  refine j_aload_n hc dX12_man_27 rfl ?_
  refine j_getI hc dX12_man_28 fgM_X12_91_0 ?_
  refine j_iconst (v := (1 : Int32)) hc dX12_man_31 ci_1 ?_
  refine j_icmp_ne (tgt := 37) hc dX12_man_32 rfl hf (fun hf => ?_) (fun hf => ?_)
  · refine j_iload_n hc dX12_man_37 rfl ?_
    refine j_tab (lo := 1) (tgt := 127) hc dX12_man_38 rfl rfl rfl hf (fun hf => ?_) (fun k K off tgt2 hK ho ht hf => ?_) (fun k off ho => ?_)
    · refine j_aload_n hc dX12_man_127 rfl ?_
      refine j_getR (u := 14) hc dX12_man_128 fgM_X12_49_0 rM_0_22 ?_
      refine j_bipush (v := (6 : Int32)) hc dX12_man_131 cb_6 ?_
      refine j_iload_n hc dX12_man_133 rfl ?_
      refine j_imul hc dX12_man_134 ?_
      refine j_iload_n hc dX12_man_135 rfl ?_
      refine j_iadd hc dX12_man_136 ?_
      refine j_iaload (n := 48) hc dX12_man_137 kM_14 hf (fun v2 hf => ?_)
      exact j_ireturn hc dX12_man_138 rfl rfl hf
    · match k, hK, ho with
      | 0, hK, ho =>
        cases hK
        have ho : (46 : Int) = off := Option.some.inj ho
        subst ho
        have ht : tgt2 = 84 := by omega
        subst ht
        refine j_aload_n hc dX12_man_84 rfl ?_
        refine j_getR (u := 17) hc dX12_man_85 fgM_X12_58_0 rM_0_27 ?_
        refine j_iconst (v := (0 : Int32)) hc dX12_man_88 ci_0 ?_
        refine j_iload_n hc dX12_man_89 rfl ?_
        refine j_iadd hc dX12_man_90 ?_
        refine j_iaload (n := 206) hc dX12_man_91 kM_17 hf (fun v3 hf => ?_)
        exact j_ireturn hc dX12_man_92 rfl rfl hf
      | 1, hK, ho =>
        cases hK
        have ho : (89 : Int) = off := Option.some.inj ho
        subst ho
        have ht : tgt2 = 127 := by omega
        subst ht
        refine j_aload_n hc dX12_man_127 rfl ?_
        refine j_getR (u := 14) hc dX12_man_128 fgM_X12_49_0 rM_0_22 ?_
        refine j_bipush (v := (6 : Int32)) hc dX12_man_131 cb_6 ?_
        refine j_iload_n hc dX12_man_133 rfl ?_
        refine j_imul hc dX12_man_134 ?_
        refine j_iload_n hc dX12_man_135 rfl ?_
        refine j_iadd hc dX12_man_136 ?_
        refine j_iaload (n := 48) hc dX12_man_137 kM_14 hf (fun v4 hf => ?_)
        exact j_ireturn hc dX12_man_138 rfl rfl hf
      | 2, hK, ho =>
        cases hK
        have ho : (89 : Int) = off := Option.some.inj ho
        subst ho
        have ht : tgt2 = 127 := by omega
        subst ht
        refine j_aload_n hc dX12_man_127 rfl ?_
        refine j_getR (u := 14) hc dX12_man_128 fgM_X12_49_0 rM_0_22 ?_
        refine j_bipush (v := (6 : Int32)) hc dX12_man_131 cb_6 ?_
        refine j_iload_n hc dX12_man_133 rfl ?_
        refine j_imul hc dX12_man_134 ?_
        refine j_iload_n hc dX12_man_135 rfl ?_
        refine j_iadd hc dX12_man_136 ?_
        refine j_iaload (n := 48) hc dX12_man_137 kM_14 hf (fun v5 hf => ?_)
        exact j_ireturn hc dX12_man_138 rfl rfl hf
      | 3, hK, ho =>
        cases hK
        have ho : (89 : Int) = off := Option.some.inj ho
        subst ho
        have ht : tgt2 = 127 := by omega
        subst ht
        refine j_aload_n hc dX12_man_127 rfl ?_
        refine j_getR (u := 14) hc dX12_man_128 fgM_X12_49_0 rM_0_22 ?_
        refine j_bipush (v := (6 : Int32)) hc dX12_man_131 cb_6 ?_
        refine j_iload_n hc dX12_man_133 rfl ?_
        refine j_imul hc dX12_man_134 ?_
        refine j_iload_n hc dX12_man_135 rfl ?_
        refine j_iadd hc dX12_man_136 ?_
        refine j_iaload (n := 48) hc dX12_man_137 kM_14 hf (fun v6 hf => ?_)
        exact j_ireturn hc dX12_man_138 rfl rfl hf
      | 4, hK, ho =>
        cases hK
        have ho : (89 : Int) = off := Option.some.inj ho
        subst ho
        have ht : tgt2 = 127 := by omega
        subst ht
        refine j_aload_n hc dX12_man_127 rfl ?_
        refine j_getR (u := 14) hc dX12_man_128 fgM_X12_49_0 rM_0_22 ?_
        refine j_bipush (v := (6 : Int32)) hc dX12_man_131 cb_6 ?_
        refine j_iload_n hc dX12_man_133 rfl ?_
        refine j_imul hc dX12_man_134 ?_
        refine j_iload_n hc dX12_man_135 rfl ?_
        refine j_iadd hc dX12_man_136 ?_
        refine j_iaload (n := 48) hc dX12_man_137 kM_14 hf (fun v7 hf => ?_)
        exact j_ireturn hc dX12_man_138 rfl rfl hf
      | 5, hK, ho =>
        cases hK
        have ho : (55 : Int) = off := Option.some.inj ho
        subst ho
        have ht : tgt2 = 93 := by omega
        subst ht
        refine j_aload_n hc dX12_man_93 rfl ?_
        refine j_getR (u := 17) hc dX12_man_94 fgM_X12_58_0 rM_0_27 ?_
        refine j_bipush (v := (8 : Int32)) hc dX12_man_97 cb_8 ?_
        refine j_iload_n hc dX12_man_99 rfl ?_
        refine j_iadd hc dX12_man_100 ?_
        refine j_iaload (n := 206) hc dX12_man_101 kM_17 hf (fun v8 hf => ?_)
        exact j_ireturn hc dX12_man_102 rfl rfl hf
      | 6, hK, ho =>
        cases hK
        have ho : (65 : Int) = off := Option.some.inj ho
        subst ho
        have ht : tgt2 = 103 := by omega
        subst ht
        refine j_aload_n hc dX12_man_103 rfl ?_
        refine j_getR (u := 17) hc dX12_man_104 fgM_X12_58_0 rM_0_27 ?_
        refine j_bipush (v := (16 : Int32)) hc dX12_man_107 cb_16 ?_
        refine j_iload_n hc dX12_man_109 rfl ?_
        refine j_iadd hc dX12_man_110 ?_
        refine j_iaload (n := 206) hc dX12_man_111 kM_17 hf (fun v9 hf => ?_)
        exact j_ireturn hc dX12_man_112 rfl rfl hf
      | 7, hK, ho =>
        cases hK
        have ho : (75 : Int) = off := Option.some.inj ho
        subst ho
        have ht : tgt2 = 113 := by omega
        subst ht
        refine j_aload_n hc dX12_man_113 rfl ?_
        refine j_iload_n hc dX12_man_114 rfl ?_
        refine j_callVI (t := 0) (As := [.int a1]) hc dX12_man_115 kw_1772 mX12_isHome kM_0 clX12 rfl (by omega) (Nat.le_of_ble_eq_true rfl) (Nat.le_of_ble_eq_true rfl) ⟨Nat.le_refl _, Nat.le_refl _⟩ hf (fun v I' L' h => qX12_isHome x.2.1 n d a1 I1 L v I' L' h) (fun v10 I10 L10 hf => ?_)
        refine j_if_eq (tgt := 125) hc dX12_man_118 rfl hf (fun hf => ?_) (fun hf => ?_)
        · refine j_iconst (v := (0 : Int32)) hc dX12_man_125 ci_0 ?_
          exact j_ireturn hc dX12_man_126 rfl rfl hf
        · refine j_iconst (v := (1 : Int32)) hc dX12_man_121 ci_1 ?_
          refine j_goto (tgt := 126) hc dX12_man_122 rfl ?_
          exact j_ireturn hc dX12_man_126 rfl rfl hf
      | k + 8, hK, ho => simp at hK
    · match k, ho with
      | 0, ho => have ho : (46 : Int) = off := Option.some.inj ho; subst ho; exact ⟨84, rfl⟩
      | 1, ho => have ho : (89 : Int) = off := Option.some.inj ho; subst ho; exact ⟨127, rfl⟩
      | 2, ho => have ho : (89 : Int) = off := Option.some.inj ho; subst ho; exact ⟨127, rfl⟩
      | 3, ho => have ho : (89 : Int) = off := Option.some.inj ho; subst ho; exact ⟨127, rfl⟩
      | 4, ho => have ho : (89 : Int) = off := Option.some.inj ho; subst ho; exact ⟨127, rfl⟩
      | 5, ho => have ho : (55 : Int) = off := Option.some.inj ho; subst ho; exact ⟨93, rfl⟩
      | 6, ho => have ho : (65 : Int) = off := Option.some.inj ho; subst ho; exact ⟨103, rfl⟩
      | 7, ho => have ho : (75 : Int) = off := Option.some.inj ho; subst ho; exact ⟨113, rfl⟩
      | k + 8, ho => simp at ho
  · refine j_iconst (v := (0 : Int32)) hc dX12_man_35 ci_0 ?_
    exact j_ireturn hc dX12_man_36 rfl rfl hf

set_option maxRecDepth 100000 in
def fX12_man_b23 (n d : Nat) (a1 : Int32) (a2 : Int32) (I : am_I) (L : am_L) : Option (Int32 × am_I × am_L) :=
  fX12_man_b24 n d (1 : Int32) a1 a2 I L

set_option maxRecDepth 100000 in
set_option maxHeartbeats 4000000 in
theorem tX12_man_b23 {x : am_X} (n d : Nat) (hc : am_ok x cX12_man yX12_man 3 (some .int) (d + 8) 0 0) {r : Int32} {I' : am_I} {L' : am_L} (a1 : Int32) (a2 : Int32) (I : am_I) (L : am_L) (hf : fX12_man_b23 n d a1 a2 I L = some (r, I', L')) : am_J x (fun S => S = (some (.int r), KM, RM, I', L')) 23 [some (.ref 0), some (.int a1), some (.int a2)] [.ref 0] KM RM I L 0 0 := by
  unfold fX12_man_b23 at hf
  refine j_iconst (v := (1 : Int32)) hc dX12_man_23 ci_1 ?_
  exact j_sub (tX12_man_b24 n d hc _ _ _ _ _ hf) (And.intro rfl (And.intro rfl (And.intro rfl (trivial))))

set_option maxRecDepth 100000 in
def fX12_man (n d : Nat) (a1 : Int32) (a2 : Int32) (I : am_I) (L : am_L) : Option (Int32 × am_I × am_L) :=
  am_b3 (fX12_isMan n d a1 I L) (fun v1 I1 L1 => if v1 = 0 then
    (fX12_man_b23 n d a1 a2 I1 L1)
    else
    (am_b3 (fX12_in n d a2 (0 : Int32) (8 : Int32) I1 L1) (fun v2 I2 L2 => if v2 = 0 then
      (fX12_man_b23 n d a1 a2 I2 L2)
      else
      (fX12_man_b24 n d (0 : Int32) a1 a2 I2 L2))))

set_option maxRecDepth 100000 in
set_option maxHeartbeats 4000000 in
theorem tX12_man {x : am_X} (n d : Nat) (hc : am_ok x cX12_man yX12_man 3 (some .int) (d + 8) 0 0) {r : Int32} {I' : am_I} {L' : am_L} (a1 : Int32) (a2 : Int32) (I : am_I) (L : am_L) (hf : fX12_man n d a1 a2 I L = some (r, I', L')) : am_J x (fun S => S = (some (.int r), KM, RM, I', L')) 0 [some (.ref 0), some (.int a1), some (.int a2)] [] KM RM I L 0 0 := by
  unfold fX12_man at hf
  refine j_aload_n hc dX12_man_0 rfl ?_
  refine j_aload_n hc dX12_man_1 rfl ?_
  refine j_iload_n hc dX12_man_2 rfl ?_
  refine j_callVI (t := 0) (As := [.int a1]) hc dX12_man_3 kw_1768 mX12_isMan kM_0 clX12 rfl (by omega) (Nat.le_of_ble_eq_true rfl) (Nat.le_of_ble_eq_true rfl) ⟨Nat.le_refl _, Nat.le_refl _⟩ hf (fun v I' L' h => qX12_isMan x.2.1 n d a1 I L v I' L' h) (fun v1 I1 L1 hf => ?_)
  refine j_if_eq (tgt := 23) hc dX12_man_6 rfl hf (fun hf => ?_) (fun hf => ?_)
  · exact j_sub (tX12_man_b23 n d hc _ _ _ _ hf) (And.intro rfl (And.intro rfl (And.intro rfl (trivial))))
  · refine j_iload_n hc dX12_man_9 rfl ?_
    refine j_iconst (v := (0 : Int32)) hc dX12_man_10 ci_0 ?_
    refine j_bipush (v := (8 : Int32)) hc dX12_man_11 cb_8 ?_
    refine j_callSI (As := [.int a2, .int (0 : Int32), .int (8 : Int32)]) hc dX12_man_13 kw_1671 mX12_in  rfl (by omega) (Nat.le_of_ble_eq_true rfl) (Nat.le_of_ble_eq_true rfl) ⟨Nat.le_refl _, Nat.le_refl _⟩ hf (fun v I' L' h => qX12_in x.2.1 n d a2 (0 : Int32) (8 : Int32) I1 L1 v I' L' h) (fun v2 I2 L2 hf => ?_)
    refine j_if_eq (tgt := 23) hc dX12_man_16 rfl hf (fun hf => ?_) (fun hf => ?_)
    · exact j_sub (tX12_man_b23 n d hc _ _ _ _ hf) (And.intro rfl (And.intro rfl (And.intro rfl (trivial))))
    · refine j_iconst (v := (0 : Int32)) hc dX12_man_19 ci_0 ?_
      refine j_goto (tgt := 24) hc dX12_man_20 rfl ?_
      exact j_sub (tX12_man_b24 n d hc _ _ _ _ _ hf) (And.intro rfl (And.intro rfl (And.intro rfl (trivial))))

set_option maxRecDepth 100000 in
theorem qX12_man (l : Launch) (n d : Nat) (a1 : Int32) (a2 : Int32) (I : am_I) (L : am_L) (r : Int32) (I' : am_I) (L' : am_L) (hf : fX12_man n d a1 a2 I L = some (r, I', L')) : am_C l yX12_man cX12_man 3 (some .int) (d + 8) [.ref 0, .int a1, .int a2] KM RM I L (some (.int r)) I' L' := by
  exact am_intro (plainFor_of_name plX12) (fun _ _ => trivial) (Nat.le_of_ble_eq_true rfl) (fun x hl hc => by subst hl; exact j_sub (tX12_man n d hc _ _ _ _ hf) (And.intro rfl (And.intro rfl (And.intro rfl (trivial)))))
set_option maxRecDepth 100000 in
def fX12_thrown (n d : Nat) (I : am_I) (L : am_L) : Option (Int32 × am_I × am_L) :=
  some ((I 0 0), I, L)

set_option maxRecDepth 100000 in
set_option maxHeartbeats 4000000 in
theorem tX12_thrown {x : am_X} (n d : Nat) (hc : am_ok x cX12_thrown yX12_thrown 1 (some .int) (d + 1) 0 0) {r : Int32} {I' : am_I} {L' : am_L} (I : am_I) (L : am_L) (hf : fX12_thrown n d I L = some (r, I', L')) : am_J x (fun S => S = (some (.int r), KM, RM, I', L')) 0 [some (.ref 0)] [] KM RM I L 0 0 := by
  unfold fX12_thrown at hf
  refine j_aload_n hc dX12_thrown_0 rfl ?_
  refine j_getI hc dX12_thrown_1 fgM_X12_91_0 ?_
  exact j_ireturn hc dX12_thrown_4 rfl rfl hf

set_option maxRecDepth 100000 in
theorem qX12_thrown (l : Launch) (n d : Nat) (I : am_I) (L : am_L) (r : Int32) (I' : am_I) (L' : am_L) (hf : fX12_thrown n d I L = some (r, I', L')) : am_C l yX12_thrown cX12_thrown 1 (some .int) (d + 1) [.ref 0] KM RM I L (some (.int r)) I' L' := by
  exact am_intro (plainFor_of_name plX12) (fun _ _ => trivial) (Nat.le_of_ble_eq_true rfl) (fun x hl hc => by subst hl; exact j_sub (tX12_thrown n d hc  _ _ hf) (And.intro rfl (trivial)))
set_option maxRecDepth 100000 in
def fX12_orchard (n d : Nat) (a1 : Int32) (a2 : Int32) (I : am_I) (L : am_L) : Option (Int32 × am_I × am_L) :=
  am_b3 (fX12_in n d a1 (0 : Int32) ((I 0 26) - (1 : Int32)) I L) (fun v1 I1 L1 => if v1 = 0 then
    (some ((-1 : Int32), I1, L1))
    else
    (am_b3 (fX12_in n d a2 (0 : Int32) (1 : Int32) I1 L1) (fun v2 I2 L2 => if v2 = 0 then
      (some ((-1 : Int32), I2, L2))
      else
      (am_ck (((2 : Int32) * a1) + a2) 12 (am_lt (I2 15 ((((2 : Int32) * a1) + a2)).toNatClampNeg) (fun v3 => some (v3, I2, L2)))))))

set_option maxRecDepth 100000 in
set_option maxHeartbeats 4000000 in
theorem tX12_orchard {x : am_X} (n d : Nat) (hc : am_ok x cX12_orchard yX12_orchard 3 (some .int) (d + 2) 0 0) {r : Int32} {I' : am_I} {L' : am_L} (a1 : Int32) (a2 : Int32) (I : am_I) (L : am_L) (hf : fX12_orchard n d a1 a2 I L = some (r, I', L')) : am_J x (fun S => S = (some (.int r), KM, RM, I', L')) 0 [some (.ref 0), some (.int a1), some (.int a2)] [] KM RM I L 0 0 := by
  unfold fX12_orchard at hf
  refine j_iload_n hc dX12_orchard_0 rfl ?_
  refine j_iconst (v := (0 : Int32)) hc dX12_orchard_1 ci_0 ?_
  refine j_aload_n hc dX12_orchard_2 rfl ?_
  refine j_getI hc dX12_orchard_3 fgM_X12_253_0 ?_
  refine j_iconst (v := (1 : Int32)) hc dX12_orchard_6 ci_1 ?_
  refine j_isub hc dX12_orchard_7 ?_
  refine j_callSI (As := [.int a1, .int (0 : Int32), .int ((I 0 26) - (1 : Int32))]) hc dX12_orchard_8 kw_1671 mX12_in  rfl (by omega) (Nat.le_of_ble_eq_true rfl) (Nat.le_of_ble_eq_true rfl) ⟨Nat.le_refl _, Nat.le_refl _⟩ hf (fun v I' L' h => qX12_in x.2.1 n d a1 (0 : Int32) ((I 0 26) - (1 : Int32)) I L v I' L' h) (fun v1 I1 L1 hf => ?_)
  refine j_if_eq (tgt := 36) hc dX12_orchard_11 rfl hf (fun hf => ?_) (fun hf => ?_)
  · refine j_iconst (v := (-1 : Int32)) hc dX12_orchard_36 ci_m1 ?_
    exact j_ireturn hc dX12_orchard_37 rfl rfl hf
  · refine j_iload_n hc dX12_orchard_14 rfl ?_
    refine j_iconst (v := (0 : Int32)) hc dX12_orchard_15 ci_0 ?_
    refine j_iconst (v := (1 : Int32)) hc dX12_orchard_16 ci_1 ?_
    refine j_callSI (As := [.int a2, .int (0 : Int32), .int (1 : Int32)]) hc dX12_orchard_17 kw_1671 mX12_in  rfl (by omega) (Nat.le_of_ble_eq_true rfl) (Nat.le_of_ble_eq_true rfl) ⟨Nat.le_refl _, Nat.le_refl _⟩ hf (fun v I' L' h => qX12_in x.2.1 n d a2 (0 : Int32) (1 : Int32) I1 L1 v I' L' h) (fun v2 I2 L2 hf => ?_)
    refine j_if_eq (tgt := 36) hc dX12_orchard_20 rfl hf (fun hf => ?_) (fun hf => ?_)
    · refine j_iconst (v := (-1 : Int32)) hc dX12_orchard_36 ci_m1 ?_
      exact j_ireturn hc dX12_orchard_37 rfl rfl hf
    · refine j_aload_n hc dX12_orchard_23 rfl ?_
      refine j_getR (u := 15) hc dX12_orchard_24 fgM_X12_52_0 rM_0_23 ?_
      refine j_iconst (v := (2 : Int32)) hc dX12_orchard_27 ci_2 ?_
      refine j_iload_n hc dX12_orchard_28 rfl ?_
      refine j_imul hc dX12_orchard_29 ?_
      refine j_iload_n hc dX12_orchard_30 rfl ?_
      refine j_iadd hc dX12_orchard_31 ?_
      refine j_iaload (n := 12) hc dX12_orchard_32 kM_15 hf (fun v3 hf => ?_)
      refine j_goto (tgt := 37) hc dX12_orchard_33 rfl ?_
      exact j_ireturn hc dX12_orchard_37 rfl rfl hf

set_option maxRecDepth 100000 in
theorem qX12_orchard (l : Launch) (n d : Nat) (a1 : Int32) (a2 : Int32) (I : am_I) (L : am_L) (r : Int32) (I' : am_I) (L' : am_L) (hf : fX12_orchard n d a1 a2 I L = some (r, I', L')) : am_C l yX12_orchard cX12_orchard 3 (some .int) (d + 2) [.ref 0, .int a1, .int a2] KM RM I L (some (.int r)) I' L' := by
  exact am_intro (plainFor_of_name plX12) (fun _ _ => trivial) (Nat.le_of_ble_eq_true rfl) (fun x hl hc => by subst hl; exact j_sub (tX12_orchard n d hc _ _ _ _ hf) (And.intro rfl (And.intro rfl (And.intro rfl (trivial)))))
set_option maxRecDepth 100000 in
def fX12_law (n d : Nat) (a1 : Int32) (I : am_I) (L : am_L) : Option (Int32 × am_I × am_L) :=
  am_b3 (fX12_in n d a1 (-1 : Int32) ((I 0 13) - (1 : Int32)) I L) (fun v1 I1 L1 => if v1 = 0 then
    (some ((0 : Int32), I1, L1))
    else
    (am_lt (am_up I1 0 28 a1) (fun I2 => some ((1 : Int32), I2, L1))))

set_option maxRecDepth 100000 in
set_option maxHeartbeats 4000000 in
theorem tX12_law {x : am_X} (n d : Nat) (hc : am_ok x cX12_law yX12_law 2 (some .boolean) (d + 2) 0 0) {r : Int32} {I' : am_I} {L' : am_L} (a1 : Int32) (I : am_I) (L : am_L) (hf : fX12_law n d a1 I L = some (r, I', L')) : am_J x (fun S => S = (some (.int r), KM, RM, I', L')) 0 [some (.ref 0), some (.int a1)] [] KM RM I L 0 0 := by
  unfold fX12_law at hf
  refine j_iload_n hc dX12_law_0 rfl ?_
  refine j_iconst (v := (-1 : Int32)) hc dX12_law_1 ci_m1 ?_
  refine j_aload_n hc dX12_law_2 rfl ?_
  refine j_getI hc dX12_law_3 fgM_X12_272_0 ?_
  refine j_iconst (v := (1 : Int32)) hc dX12_law_6 ci_1 ?_
  refine j_isub hc dX12_law_7 ?_
  refine j_callSI (As := [.int a1, .int (-1 : Int32), .int ((I 0 13) - (1 : Int32))]) hc dX12_law_8 kw_1671 mX12_in  rfl (by omega) (Nat.le_of_ble_eq_true rfl) (Nat.le_of_ble_eq_true rfl) ⟨Nat.le_refl _, Nat.le_refl _⟩ hf (fun v I' L' h => qX12_in x.2.1 n d a1 (-1 : Int32) ((I 0 13) - (1 : Int32)) I L v I' L' h) (fun v1 I1 L1 hf => ?_)
  refine j_if_ne (tgt := 16) hc dX12_law_11 rfl hf (fun hf => ?_) (fun hf => ?_)
  · refine j_aload_n hc dX12_law_16 rfl ?_
    refine j_iload_n hc dX12_law_17 rfl ?_
    refine j_putI hc dX12_law_18 fpM_X12_61_0 rfl rfl hf (fun I2 hf => ?_)
    refine j_iconst (v := (1 : Int32)) hc dX12_law_21 ci_1 ?_
    exact j_zret hc dX12_law_22 rfl rfl (Or.inr rfl) hf
  · refine j_iconst (v := (0 : Int32)) hc dX12_law_14 ci_0 ?_
    exact j_zret hc dX12_law_15 rfl rfl (Or.inl rfl) hf

set_option maxRecDepth 100000 in
theorem qX12_law (l : Launch) (n d : Nat) (a1 : Int32) (I : am_I) (L : am_L) (r : Int32) (I' : am_I) (L' : am_L) (hf : fX12_law n d a1 I L = some (r, I', L')) : am_C l yX12_law cX12_law 2 (some .boolean) (d + 2) [.ref 0, .int a1] KM RM I L (some (.int r)) I' L' := by
  exact am_intro (plainFor_of_name plX12) (fun _ _ => trivial) (Nat.le_of_ble_eq_true rfl) (fun x hl hc => by subst hl; exact j_sub (tX12_law n d hc _ _ _ hf) (And.intro rfl (And.intro rfl (trivial))))
set_option maxRecDepth 100000 in
def fX12_atHome_b28 (n d : Nat) (k4 : Int32 → Int32 → am_I → am_L → Option (Int32 × am_I × am_L)) (s0 : Int32) (s1 : Int32) (a2 : Int32) (I : am_I) (L : am_L) : Option (Int32 × am_I × am_L) :=
  am_lt (s0 ||| s1) (fun v1 => am_lt (a2 + (1 : Int32)) (fun v2 => k4 v1 v2 I L))

set_option maxRecDepth 100000 in
set_option maxHeartbeats 4000000 in
theorem tX12_atHome_b28 {x : am_X} (n d : Nat) (hc : am_ok x cX12_atHome yX12_atHome 3 (some .int) (d + 8) 0 0) {r : Int32} {I' : am_I} {L' : am_L} (k4 : Int32 → Int32 → am_I → am_L → Option (Int32 × am_I × am_L)) (hk4 : ∀ (a1 : Int32) (a2 : Int32) (I : am_I) (L : am_L), k4 a1 a2 I L = some (r, I', L') → am_J x (fun S => S = (some (.int r), KM, RM, I', L')) 4 [some (.ref 0), some (.int a1), some (.int a2)] [] KM RM I L 0 0) (s0 : Int32) (s1 : Int32) (a2 : Int32) (I : am_I) (L : am_L) (hf : fX12_atHome_b28 n d k4 s0 s1 a2 I L = some (r, I', L')) : am_J x (fun S => S = (some (.int r), KM, RM, I', L')) 28 [some (.ref 0), none, some (.int a2)] [.int s1, .int s0] KM RM I L 0 0 := by
  unfold fX12_atHome_b28 at hf
  refine j_ior hc dX12_atHome_28 ?_
  refine j_istore_n hc dX12_atHome_29 (Nat.le_of_ble_eq_true rfl) hf (fun v1 hf => ?_)
  refine j_iinc (w := (1 : Int32)) hc dX12_atHome_30 rfl ci_1 (Nat.le_of_ble_eq_true rfl) hf (fun v2 hf => ?_)
  refine j_goto (tgt := 4) hc dX12_atHome_33 rfl ?_
  exact j_sub (hk4 _ _ _ _ hf) (And.intro rfl (And.intro rfl (And.intro rfl (trivial))))

set_option maxRecDepth 100000 in
def fX12_atHome_b4w (n d : Nat) (k4 : Int32 → Int32 → am_I → am_L → Option (Int32 × am_I × am_L)) (a1 : Int32) (a2 : Int32) (I : am_I) (L : am_L) : Option (Int32 × am_I × am_L) :=
  if (I 0 25) ≤ a2 then
    (some (a1, I, L))
    else
    (am_b3 (fX12_isHome n d a2 I L) (fun v1 I1 L1 => if v1 = 0 then
      (fX12_atHome_b28 n d k4 a1 (0 : Int32) a2 I1 L1)
      else
      (fX12_atHome_b28 n d k4 a1 ((1 : Int32) <<< (a2 &&& 31)) a2 I1 L1)))

set_option maxRecDepth 100000 in
set_option maxHeartbeats 4000000 in
theorem tX12_atHome_b4w {x : am_X} (n d : Nat) (hc : am_ok x cX12_atHome yX12_atHome 3 (some .int) (d + 8) 0 0) {r : Int32} {I' : am_I} {L' : am_L} (k4 : Int32 → Int32 → am_I → am_L → Option (Int32 × am_I × am_L)) (hk4 : ∀ (a1 : Int32) (a2 : Int32) (I : am_I) (L : am_L), k4 a1 a2 I L = some (r, I', L') → am_J x (fun S => S = (some (.int r), KM, RM, I', L')) 4 [some (.ref 0), some (.int a1), some (.int a2)] [] KM RM I L 0 0) (a1 : Int32) (a2 : Int32) (I : am_I) (L : am_L) (hf : fX12_atHome_b4w n d k4 a1 a2 I L = some (r, I', L')) : am_J x (fun S => S = (some (.int r), KM, RM, I', L')) 4 [some (.ref 0), some (.int a1), some (.int a2)] [] KM RM I L 0 0 := by
  unfold fX12_atHome_b4w at hf
  refine j_iload_n hc dX12_atHome_4 rfl ?_
  refine j_aload_n hc dX12_atHome_5 rfl ?_
  refine j_getI hc dX12_atHome_6 fgM_X12_250_0 ?_
  refine j_icmp_ge (tgt := 36) hc dX12_atHome_9 rfl hf (fun hf => ?_) (fun hf => ?_)
  · refine j_iload_n hc dX12_atHome_36 rfl ?_
    exact j_ireturn hc dX12_atHome_37 rfl rfl hf
  · refine j_iload_n hc dX12_atHome_12 rfl ?_
    refine j_aload_n hc dX12_atHome_13 rfl ?_
    refine j_iload_n hc dX12_atHome_14 rfl ?_
    refine j_callVI (t := 0) (As := [.int a2]) hc dX12_atHome_15 kw_1772 mX12_isHome kM_0 clX12 rfl (by omega) (Nat.le_of_ble_eq_true rfl) (Nat.le_of_ble_eq_true rfl) ⟨Nat.le_refl _, Nat.le_refl _⟩ hf (fun v I' L' h => qX12_isHome x.2.1 n d a2 I L v I' L' h) (fun v1 I1 L1 hf => ?_)
    refine j_if_eq (tgt := 27) hc dX12_atHome_18 rfl hf (fun hf => ?_) (fun hf => ?_)
    · refine j_iconst (v := (0 : Int32)) hc dX12_atHome_27 ci_0 ?_
      exact j_sub (tX12_atHome_b28 n d hc k4 hk4 _ _ _ _ _ hf) (And.intro rfl (And.intro rfl (trivial)))
    · refine j_iconst (v := (1 : Int32)) hc dX12_atHome_21 ci_1 ?_
      refine j_iload_n hc dX12_atHome_22 rfl ?_
      refine j_ishl hc dX12_atHome_23 ?_
      refine j_goto (tgt := 28) hc dX12_atHome_24 rfl ?_
      exact j_sub (tX12_atHome_b28 n d hc k4 hk4 _ _ _ _ _ hf) (And.intro rfl (And.intro rfl (trivial)))

def fX12_atHome_b4 (n d : Nat) : Nat → Int32 → Int32 → am_I → am_L → Option (Int32 × am_I × am_L)
  | 0 => fun _ _ _ _ => none
  | m + 1 => fX12_atHome_b4w n d  (fX12_atHome_b4 n d m)

set_option maxRecDepth 100000 in
theorem tX12_atHome_b4 {x : am_X} (n d : Nat) (hc : am_ok x cX12_atHome yX12_atHome 3 (some .int) (d + 8) 0 0) {r : Int32} {I' : am_I} {L' : am_L} (m : Nat) : ∀ (a1 : Int32) (a2 : Int32) (I : am_I) (L : am_L) (hf : fX12_atHome_b4 n d m a1 a2 I L = some (r, I', L')), am_J x (fun S => S = (some (.int r), KM, RM, I', L')) 4 [some (.ref 0), some (.int a1), some (.int a2)] [] KM RM I L 0 0 := by
  induction m with
  | zero => intro a1 a2 I L hf; exact (Option.some_ne_none _ hf.symm).elim
  | succ m ih => intro a1 a2 I L hf; exact tX12_atHome_b4w n d hc (fX12_atHome_b4 n d m) ih a1 a2 I L hf

set_option maxRecDepth 100000 in
def fX12_atHome (n d : Nat) (I : am_I) (L : am_L) : Option (Int32 × am_I × am_L) :=
  am_lt (0 : Int32) (fun v1 => am_lt (0 : Int32) (fun v2 => fX12_atHome_b4 n d n v1 v2 I L))

set_option maxRecDepth 100000 in
set_option maxHeartbeats 4000000 in
theorem tX12_atHome {x : am_X} (n d : Nat) (hc : am_ok x cX12_atHome yX12_atHome 3 (some .int) (d + 8) 0 0) {r : Int32} {I' : am_I} {L' : am_L} (I : am_I) (L : am_L) (hf : fX12_atHome n d I L = some (r, I', L')) : am_J x (fun S => S = (some (.int r), KM, RM, I', L')) 0 [some (.ref 0), none, none] [] KM RM I L 0 0 := by
  unfold fX12_atHome at hf
  refine j_iconst (v := (0 : Int32)) hc dX12_atHome_0 ci_0 ?_
  refine j_istore_n hc dX12_atHome_1 (Nat.le_of_ble_eq_true rfl) hf (fun v1 hf => ?_)
  refine j_iconst (v := (0 : Int32)) hc dX12_atHome_2 ci_0 ?_
  refine j_istore_n hc dX12_atHome_3 (Nat.le_of_ble_eq_true rfl) hf (fun v2 hf => ?_)
  exact j_sub (tX12_atHome_b4 n d hc n _ _ _ _ hf) (And.intro rfl (And.intro rfl (And.intro rfl (trivial))))

set_option maxRecDepth 100000 in
theorem qX12_atHome (l : Launch) (n d : Nat) (I : am_I) (L : am_L) (r : Int32) (I' : am_I) (L' : am_L) (hf : fX12_atHome n d I L = some (r, I', L')) : am_C l yX12_atHome cX12_atHome 3 (some .int) (d + 8) [.ref 0] KM RM I L (some (.int r)) I' L' := by
  exact am_intro (plainFor_of_name plX12) (fun _ _ => trivial) (Nat.le_of_ble_eq_true rfl) (fun x hl hc => by subst hl; exact j_sub (tX12_atHome n d hc  _ _ hf) (And.intro rfl (trivial)))
set_option maxRecDepth 100000 in
def fX12_of_b29 (n d : Nat) (k4 : Int32 → Int32 → Int32 → am_I → am_L → Option (Int32 × am_I × am_L)) (s0 : Int32) (s1 : Int32) (a1 : Int32) (a3 : Int32) (I : am_I) (L : am_L) : Option (Int32 × am_I × am_L) :=
  am_lt (s0 ||| s1) (fun v1 => am_lt (a3 + (1 : Int32)) (fun v2 => k4 a1 v1 v2 I L))

set_option maxRecDepth 100000 in
set_option maxHeartbeats 4000000 in
theorem tX12_of_b29 {x : am_X} (n d : Nat) (hc : am_ok x cX12_of yX12_of 4 (some .int) (d + 2) 0 0) {r : Int32} {I' : am_I} {L' : am_L} (k4 : Int32 → Int32 → Int32 → am_I → am_L → Option (Int32 × am_I × am_L)) (hk4 : ∀ (a1 : Int32) (a2 : Int32) (a3 : Int32) (I : am_I) (L : am_L), k4 a1 a2 a3 I L = some (r, I', L') → am_J x (fun S => S = (some (.int r), KM, RM, I', L')) 4 [some (.ref 0), some (.int a1), some (.int a2), some (.int a3)] [] KM RM I L 0 0) (s0 : Int32) (s1 : Int32) (a1 : Int32) (a3 : Int32) (I : am_I) (L : am_L) (hf : fX12_of_b29 n d k4 s0 s1 a1 a3 I L = some (r, I', L')) : am_J x (fun S => S = (some (.int r), KM, RM, I', L')) 29 [some (.ref 0), some (.int a1), none, some (.int a3)] [.int s1, .int s0] KM RM I L 0 0 := by
  unfold fX12_of_b29 at hf
  refine j_ior hc dX12_of_29 ?_
  refine j_istore_n hc dX12_of_30 (Nat.le_of_ble_eq_true rfl) hf (fun v1 hf => ?_)
  refine j_iinc (w := (1 : Int32)) hc dX12_of_31 rfl ci_1 (Nat.le_of_ble_eq_true rfl) hf (fun v2 hf => ?_)
  refine j_goto (tgt := 4) hc dX12_of_34 rfl ?_
  exact j_sub (hk4 _ _ _ _ _ hf) (And.intro rfl (And.intro rfl (And.intro rfl (And.intro rfl (trivial)))))

set_option maxRecDepth 100000 in
def fX12_of_b4w (n d : Nat) (k4 : Int32 → Int32 → Int32 → am_I → am_L → Option (Int32 × am_I × am_L)) (a1 : Int32) (a2 : Int32) (a3 : Int32) (I : am_I) (L : am_L) : Option (Int32 × am_I × am_L) :=
  if (I 0 25) ≤ a3 then
    (some (a2, I, L))
    else
    (am_b3 (fX12_side n d a3 I L) (fun v1 I1 L1 => if v1 = a1 then
      (fX12_of_b29 n d k4 a2 ((1 : Int32) <<< (a3 &&& 31)) a1 a3 I1 L1)
      else
      (fX12_of_b29 n d k4 a2 (0 : Int32) a1 a3 I1 L1)))

set_option maxRecDepth 100000 in
set_option maxHeartbeats 4000000 in
theorem tX12_of_b4w {x : am_X} (n d : Nat) (hc : am_ok x cX12_of yX12_of 4 (some .int) (d + 2) 0 0) {r : Int32} {I' : am_I} {L' : am_L} (k4 : Int32 → Int32 → Int32 → am_I → am_L → Option (Int32 × am_I × am_L)) (hk4 : ∀ (a1 : Int32) (a2 : Int32) (a3 : Int32) (I : am_I) (L : am_L), k4 a1 a2 a3 I L = some (r, I', L') → am_J x (fun S => S = (some (.int r), KM, RM, I', L')) 4 [some (.ref 0), some (.int a1), some (.int a2), some (.int a3)] [] KM RM I L 0 0) (a1 : Int32) (a2 : Int32) (a3 : Int32) (I : am_I) (L : am_L) (hf : fX12_of_b4w n d k4 a1 a2 a3 I L = some (r, I', L')) : am_J x (fun S => S = (some (.int r), KM, RM, I', L')) 4 [some (.ref 0), some (.int a1), some (.int a2), some (.int a3)] [] KM RM I L 0 0 := by
  unfold fX12_of_b4w at hf
  refine j_iload_n hc dX12_of_4 rfl ?_
  refine j_aload_n hc dX12_of_5 rfl ?_
  refine j_getI hc dX12_of_6 fgM_X12_250_0 ?_
  refine j_icmp_ge (tgt := 37) hc dX12_of_9 rfl hf (fun hf => ?_) (fun hf => ?_)
  · refine j_iload_n hc dX12_of_37 rfl ?_
    exact j_ireturn hc dX12_of_38 rfl rfl hf
  · refine j_iload_n hc dX12_of_12 rfl ?_
    refine j_aload_n hc dX12_of_13 rfl ?_
    refine j_iload_n hc dX12_of_14 rfl ?_
    refine j_callVI (t := 0) (As := [.int a3]) hc dX12_of_15 kw_1780 mX12_side kM_0 clX12 rfl (by omega) (Nat.le_of_ble_eq_true rfl) (Nat.le_of_ble_eq_true rfl) ⟨Nat.le_refl _, Nat.le_refl _⟩ hf (fun v I' L' h => qX12_side x.2.1 n d a3 I L v I' L' h) (fun v1 I1 L1 hf => ?_)
    refine j_iload_n hc dX12_of_18 rfl ?_
    refine j_icmp_ne (tgt := 28) hc dX12_of_19 rfl hf (fun hf => ?_) (fun hf => ?_)
    · refine j_iconst (v := (0 : Int32)) hc dX12_of_28 ci_0 ?_
      exact j_sub (tX12_of_b29 n d hc k4 hk4 _ _ _ _ _ _ hf) (And.intro rfl (And.intro rfl (And.intro rfl (trivial))))
    · refine j_iconst (v := (1 : Int32)) hc dX12_of_22 ci_1 ?_
      refine j_iload_n hc dX12_of_23 rfl ?_
      refine j_ishl hc dX12_of_24 ?_
      refine j_goto (tgt := 29) hc dX12_of_25 rfl ?_
      exact j_sub (tX12_of_b29 n d hc k4 hk4 _ _ _ _ _ _ hf) (And.intro rfl (And.intro rfl (And.intro rfl (trivial))))

def fX12_of_b4 (n d : Nat) : Nat → Int32 → Int32 → Int32 → am_I → am_L → Option (Int32 × am_I × am_L)
  | 0 => fun _ _ _ _ _ => none
  | m + 1 => fX12_of_b4w n d  (fX12_of_b4 n d m)

set_option maxRecDepth 100000 in
theorem tX12_of_b4 {x : am_X} (n d : Nat) (hc : am_ok x cX12_of yX12_of 4 (some .int) (d + 2) 0 0) {r : Int32} {I' : am_I} {L' : am_L} (m : Nat) : ∀ (a1 : Int32) (a2 : Int32) (a3 : Int32) (I : am_I) (L : am_L) (hf : fX12_of_b4 n d m a1 a2 a3 I L = some (r, I', L')), am_J x (fun S => S = (some (.int r), KM, RM, I', L')) 4 [some (.ref 0), some (.int a1), some (.int a2), some (.int a3)] [] KM RM I L 0 0 := by
  induction m with
  | zero => intro a1 a2 a3 I L hf; exact (Option.some_ne_none _ hf.symm).elim
  | succ m ih => intro a1 a2 a3 I L hf; exact tX12_of_b4w n d hc (fX12_of_b4 n d m) ih a1 a2 a3 I L hf

set_option maxRecDepth 100000 in
def fX12_of (n d : Nat) (a1 : Int32) (I : am_I) (L : am_L) : Option (Int32 × am_I × am_L) :=
  am_lt (0 : Int32) (fun v1 => am_lt (0 : Int32) (fun v2 => fX12_of_b4 n d n a1 v1 v2 I L))

set_option maxRecDepth 100000 in
set_option maxHeartbeats 4000000 in
theorem tX12_of {x : am_X} (n d : Nat) (hc : am_ok x cX12_of yX12_of 4 (some .int) (d + 2) 0 0) {r : Int32} {I' : am_I} {L' : am_L} (a1 : Int32) (I : am_I) (L : am_L) (hf : fX12_of n d a1 I L = some (r, I', L')) : am_J x (fun S => S = (some (.int r), KM, RM, I', L')) 0 [some (.ref 0), some (.int a1), none, none] [] KM RM I L 0 0 := by
  unfold fX12_of at hf
  refine j_iconst (v := (0 : Int32)) hc dX12_of_0 ci_0 ?_
  refine j_istore_n hc dX12_of_1 (Nat.le_of_ble_eq_true rfl) hf (fun v1 hf => ?_)
  refine j_iconst (v := (0 : Int32)) hc dX12_of_2 ci_0 ?_
  refine j_istore_n hc dX12_of_3 (Nat.le_of_ble_eq_true rfl) hf (fun v2 hf => ?_)
  exact j_sub (tX12_of_b4 n d hc n _ _ _ _ _ hf) (And.intro rfl (And.intro rfl (And.intro rfl (And.intro rfl (trivial)))))

set_option maxRecDepth 100000 in
theorem qX12_of (l : Launch) (n d : Nat) (a1 : Int32) (I : am_I) (L : am_L) (r : Int32) (I' : am_I) (L' : am_L) (hf : fX12_of n d a1 I L = some (r, I', L')) : am_C l yX12_of cX12_of 4 (some .int) (d + 2) [.ref 0, .int a1] KM RM I L (some (.int r)) I' L' := by
  exact am_intro (plainFor_of_name plX12) (fun _ _ => trivial) (Nat.le_of_ble_eq_true rfl) (fun x hl hc => by subst hl; exact j_sub (tX12_of n d hc _ _ _ hf) (And.intro rfl (And.intro rfl (trivial))))
set_option maxRecDepth 100000 in
def fX12_wonBy_b53 (n d : Nat) (a2 : Int32) (a3 : Int32) (I : am_I) (L : am_L) : Option (Int32 × am_I × am_L) :=
  if a2 = 0 then
    (if a3 = 0 then
      (some ((-1 : Int32), I, L))
      else
      (some ((0 : Int32), I, L)))
    else
    (some ((1 : Int32), I, L))

set_option maxRecDepth 100000 in
set_option maxHeartbeats 4000000 in
theorem tX12_wonBy_b53 {x : am_X} (n d : Nat) (hc : am_ok x cX12_wonBy yX12_wonBy 4 (some .int) (d + 9) 0 0) {r : Int32} {I' : am_I} {L' : am_L} (a2 : Int32) (a3 : Int32) (I : am_I) (L : am_L) (hf : fX12_wonBy_b53 n d a2 a3 I L = some (r, I', L')) : am_J x (fun S => S = (some (.int r), KM, RM, I', L')) 53 [none, none, some (.int a2), some (.int a3)] [] KM RM I L 0 0 := by
  unfold fX12_wonBy_b53 at hf
  refine j_iload_n hc dX12_wonBy_53 rfl ?_
  refine j_if_eq (tgt := 61) hc dX12_wonBy_54 rfl hf (fun hf => ?_) (fun hf => ?_)
  · refine j_iload_n hc dX12_wonBy_61 rfl ?_
    refine j_if_eq (tgt := 69) hc dX12_wonBy_62 rfl hf (fun hf => ?_) (fun hf => ?_)
    · refine j_iconst (v := (-1 : Int32)) hc dX12_wonBy_69 ci_m1 ?_
      exact j_ireturn hc dX12_wonBy_70 rfl rfl hf
    · refine j_iconst (v := (0 : Int32)) hc dX12_wonBy_65 ci_0 ?_
      refine j_goto (tgt := 70) hc dX12_wonBy_66 rfl ?_
      exact j_ireturn hc dX12_wonBy_70 rfl rfl hf
  · refine j_iconst (v := (1 : Int32)) hc dX12_wonBy_57 ci_1 ?_
    refine j_goto (tgt := 70) hc dX12_wonBy_58 rfl ?_
    exact j_ireturn hc dX12_wonBy_70 rfl rfl hf

set_option maxRecDepth 100000 in
def fX12_wonBy_b40 (n d : Nat) (s0 : Int32) (a2 : Int32) (I : am_I) (L : am_L) : Option (Int32 × am_I × am_L) :=
  am_lt s0 (fun v1 => if a2 = 0 then
    (fX12_wonBy_b53 n d a2 v1 I L)
    else
    (if v1 = 0 then
      (fX12_wonBy_b53 n d a2 v1 I L)
      else
      (some ((2 : Int32), I, L))))

set_option maxRecDepth 100000 in
set_option maxHeartbeats 4000000 in
theorem tX12_wonBy_b40 {x : am_X} (n d : Nat) (hc : am_ok x cX12_wonBy yX12_wonBy 4 (some .int) (d + 9) 0 0) {r : Int32} {I' : am_I} {L' : am_L} (s0 : Int32) (a2 : Int32) (I : am_I) (L : am_L) (hf : fX12_wonBy_b40 n d s0 a2 I L = some (r, I', L')) : am_J x (fun S => S = (some (.int r), KM, RM, I', L')) 40 [none, none, some (.int a2), none] [.int s0] KM RM I L 0 0 := by
  unfold fX12_wonBy_b40 at hf
  refine j_istore_n hc dX12_wonBy_40 (Nat.le_of_ble_eq_true rfl) hf (fun v1 hf => ?_)
  refine j_iload_n hc dX12_wonBy_41 rfl ?_
  refine j_if_eq (tgt := 53) hc dX12_wonBy_42 rfl hf (fun hf => ?_) (fun hf => ?_)
  · exact j_sub (tX12_wonBy_b53 n d hc _ _ _ _ hf) (And.intro rfl (And.intro rfl (trivial)))
  · refine j_iload_n hc dX12_wonBy_45 rfl ?_
    refine j_if_eq (tgt := 53) hc dX12_wonBy_46 rfl hf (fun hf => ?_) (fun hf => ?_)
    · exact j_sub (tX12_wonBy_b53 n d hc _ _ _ _ hf) (And.intro rfl (And.intro rfl (trivial)))
    · refine j_iconst (v := (2 : Int32)) hc dX12_wonBy_49 ci_2 ?_
      refine j_goto (tgt := 70) hc dX12_wonBy_50 rfl ?_
      exact j_ireturn hc dX12_wonBy_70 rfl rfl hf

set_option maxRecDepth 100000 in
def fX12_wonBy_b22 (n d : Nat) (s0 : Int32) (a1 : Int32) (I : am_I) (L : am_L) : Option (Int32 × am_I × am_L) :=
  am_lt s0 (fun v1 => am_b3 (fX12_of n d (1 : Int32) I L) (fun v2 I2 L2 => if (v2 &&& (a1 ^^^ (-1 : Int32))) = 0 then
    (fX12_wonBy_b40 n d (1 : Int32) v1 I2 L2)
    else
    (fX12_wonBy_b40 n d (0 : Int32) v1 I2 L2)))

set_option maxRecDepth 100000 in
set_option maxHeartbeats 4000000 in
theorem tX12_wonBy_b22 {x : am_X} (n d : Nat) (hc : am_ok x cX12_wonBy yX12_wonBy 4 (some .int) (d + 9) 0 0) {r : Int32} {I' : am_I} {L' : am_L} (s0 : Int32) (a1 : Int32) (I : am_I) (L : am_L) (hf : fX12_wonBy_b22 n d s0 a1 I L = some (r, I', L')) : am_J x (fun S => S = (some (.int r), KM, RM, I', L')) 22 [some (.ref 0), some (.int a1), none, none] [.int s0] KM RM I L 0 0 := by
  unfold fX12_wonBy_b22 at hf
  refine j_istore_n hc dX12_wonBy_22 (Nat.le_of_ble_eq_true rfl) hf (fun v1 hf => ?_)
  refine j_aload_n hc dX12_wonBy_23 rfl ?_
  refine j_iconst (v := (1 : Int32)) hc dX12_wonBy_24 ci_1 ?_
  refine j_callVI (t := 0) (As := [.int (1 : Int32)]) hc dX12_wonBy_25 kw_1826 mX12_of kM_0 clX12 rfl (by omega) (Nat.le_of_ble_eq_true rfl) (Nat.le_of_ble_eq_true rfl) ⟨Nat.le_refl _, Nat.le_refl _⟩ hf (fun v I' L' h => qX12_of x.2.1 n d (1 : Int32) I L v I' L' h) (fun v2 I2 L2 hf => ?_)
  refine j_iload_n hc dX12_wonBy_28 rfl ?_
  refine j_iconst (v := (-1 : Int32)) hc dX12_wonBy_29 ci_m1 ?_
  refine j_ixor hc dX12_wonBy_30 ?_
  refine j_iand hc dX12_wonBy_31 ?_
  refine j_if_ne (tgt := 39) hc dX12_wonBy_32 rfl hf (fun hf => ?_) (fun hf => ?_)
  · refine j_iconst (v := (0 : Int32)) hc dX12_wonBy_39 ci_0 ?_
    exact j_sub (tX12_wonBy_b40 n d hc _ _ _ _ hf) (And.intro rfl (trivial))
  · refine j_iconst (v := (1 : Int32)) hc dX12_wonBy_35 ci_1 ?_
    refine j_goto (tgt := 40) hc dX12_wonBy_36 rfl ?_
    exact j_sub (tX12_wonBy_b40 n d hc _ _ _ _ hf) (And.intro rfl (trivial))

set_option maxRecDepth 100000 in
def fX12_wonBy (n d : Nat) (I : am_I) (L : am_L) : Option (Int32 × am_I × am_L) :=
  am_b3 (fX12_atHome n d I L) (fun v1 I1 L1 => am_lt v1 (fun v2 => am_b3 (fX12_of n d (0 : Int32) I1 L1) (fun v3 I3 L3 => if (v3 &&& (v2 ^^^ (-1 : Int32))) = 0 then
    (fX12_wonBy_b22 n d (1 : Int32) v2 I3 L3)
    else
    (fX12_wonBy_b22 n d (0 : Int32) v2 I3 L3))))

set_option maxRecDepth 100000 in
set_option maxHeartbeats 4000000 in
theorem tX12_wonBy {x : am_X} (n d : Nat) (hc : am_ok x cX12_wonBy yX12_wonBy 4 (some .int) (d + 9) 0 0) {r : Int32} {I' : am_I} {L' : am_L} (I : am_I) (L : am_L) (hf : fX12_wonBy n d I L = some (r, I', L')) : am_J x (fun S => S = (some (.int r), KM, RM, I', L')) 0 [some (.ref 0), none, none, none] [] KM RM I L 0 0 := by
  unfold fX12_wonBy at hf
  refine j_aload_n hc dX12_wonBy_0 rfl ?_
  refine j_callVI (t := 0) (As := []) hc dX12_wonBy_1 kw_1822 mX12_atHome kM_0 clX12 rfl (by omega) (Nat.le_of_ble_eq_true rfl) (Nat.le_of_ble_eq_true rfl) ⟨Nat.le_refl _, Nat.le_refl _⟩ hf (fun v I' L' h => qX12_atHome x.2.1 n d I L v I' L' h) (fun v1 I1 L1 hf => ?_)
  refine j_istore_n hc dX12_wonBy_4 (Nat.le_of_ble_eq_true rfl) hf (fun v2 hf => ?_)
  refine j_aload_n hc dX12_wonBy_5 rfl ?_
  refine j_iconst (v := (0 : Int32)) hc dX12_wonBy_6 ci_0 ?_
  refine j_callVI (t := 0) (As := [.int (0 : Int32)]) hc dX12_wonBy_7 kw_1826 mX12_of kM_0 clX12 rfl (by omega) (Nat.le_of_ble_eq_true rfl) (Nat.le_of_ble_eq_true rfl) ⟨Nat.le_refl _, Nat.le_refl _⟩ hf (fun v I' L' h => qX12_of x.2.1 n d (0 : Int32) I1 L1 v I' L' h) (fun v3 I3 L3 hf => ?_)
  refine j_iload_n hc dX12_wonBy_10 rfl ?_
  refine j_iconst (v := (-1 : Int32)) hc dX12_wonBy_11 ci_m1 ?_
  refine j_ixor hc dX12_wonBy_12 ?_
  refine j_iand hc dX12_wonBy_13 ?_
  refine j_if_ne (tgt := 21) hc dX12_wonBy_14 rfl hf (fun hf => ?_) (fun hf => ?_)
  · refine j_iconst (v := (0 : Int32)) hc dX12_wonBy_21 ci_0 ?_
    exact j_sub (tX12_wonBy_b22 n d hc _ _ _ _ hf) (And.intro rfl (And.intro rfl (trivial)))
  · refine j_iconst (v := (1 : Int32)) hc dX12_wonBy_17 ci_1 ?_
    refine j_goto (tgt := 22) hc dX12_wonBy_18 rfl ?_
    exact j_sub (tX12_wonBy_b22 n d hc _ _ _ _ hf) (And.intro rfl (And.intro rfl (trivial)))

set_option maxRecDepth 100000 in
theorem qX12_wonBy (l : Launch) (n d : Nat) (I : am_I) (L : am_L) (r : Int32) (I' : am_I) (L' : am_L) (hf : fX12_wonBy n d I L = some (r, I', L')) : am_C l yX12_wonBy cX12_wonBy 4 (some .int) (d + 9) [.ref 0] KM RM I L (some (.int r)) I' L' := by
  exact am_intro (plainFor_of_name plX12) (fun _ _ => trivial) (Nat.le_of_ble_eq_true rfl) (fun x hl hc => by subst hl; exact j_sub (tX12_wonBy n d hc  _ _ hf) (And.intro rfl (trivial)))
set_option maxRecDepth 100000 in
def fX12_won (n d : Nat) (I : am_I) (L : am_L) : Option (Int32 × am_I × am_L) :=
  if (I 0 25) = 0 then
    (some ((-1 : Int32), I, L))
    else
    (am_b3 (fX12_wonBy n d I L) (fun v1 I1 L1 => some (v1, I1, L1)))

set_option maxRecDepth 100000 in
set_option maxHeartbeats 4000000 in
theorem tX12_won {x : am_X} (n d : Nat) (hc : am_ok x cX12_won yX12_won 1 (some .int) (d + 10) 0 0) {r : Int32} {I' : am_I} {L' : am_L} (I : am_I) (L : am_L) (hf : fX12_won n d I L = some (r, I', L')) : am_J x (fun S => S = (some (.int r), KM, RM, I', L')) 0 [some (.ref 0)] [] KM RM I L 0 0 := by
  unfold fX12_won at hf
  refine j_aload_n hc dX12_won_0 rfl ?_
  refine j_getI hc dX12_won_1 fgM_X12_250_0 ?_
  refine j_if_ne (tgt := 11) hc dX12_won_4 rfl hf (fun hf => ?_) (fun hf => ?_)
  · refine j_aload_n hc dX12_won_11 rfl ?_
    refine j_callVI (t := 0) (As := []) hc dX12_won_12 kw_1818 mX12_wonBy kM_0 clX12 rfl (by omega) (Nat.le_of_ble_eq_true rfl) (Nat.le_of_ble_eq_true rfl) ⟨Nat.le_refl _, Nat.le_refl _⟩ hf (fun v I' L' h => qX12_wonBy x.2.1 n d I L v I' L' h) (fun v1 I1 L1 hf => ?_)
    exact j_ireturn hc dX12_won_15 rfl rfl hf
  · refine j_iconst (v := (-1 : Int32)) hc dX12_won_7 ci_m1 ?_
    refine j_goto (tgt := 15) hc dX12_won_8 rfl ?_
    exact j_ireturn hc dX12_won_15 rfl rfl hf

set_option maxRecDepth 100000 in
theorem qX12_won (l : Launch) (n d : Nat) (I : am_I) (L : am_L) (r : Int32) (I' : am_I) (L' : am_L) (hf : fX12_won n d I L = some (r, I', L')) : am_C l yX12_won cX12_won 1 (some .int) (d + 10) [.ref 0] KM RM I L (some (.int r)) I' L' := by
  exact am_intro (plainFor_of_name plX12) (fun _ _ => trivial) (Nat.le_of_ble_eq_true rfl) (fun x hl hc => by subst hl; exact j_sub (tX12_won n d hc  _ _ hf) (And.intro rfl (trivial)))
set_option maxRecDepth 100000 in
def fX12_isOver_b15 (n d : Nat) (I : am_I) (L : am_L) : Option (Int32 × am_I × am_L) :=
  some ((1 : Int32), I, L)

set_option maxRecDepth 100000 in
set_option maxHeartbeats 4000000 in
theorem tX12_isOver_b15 {x : am_X} (n d : Nat) (hc : am_ok x cX12_isOver yX12_isOver 1 (some .boolean) (d + 10) 0 0) {r : Int32} {I' : am_I} {L' : am_L} (I : am_I) (L : am_L) (hf : fX12_isOver_b15 n d I L = some (r, I', L')) : am_J x (fun S => S = (some (.int r), KM, RM, I', L')) 15 [none] [] KM RM I L 0 0 := by
  unfold fX12_isOver_b15 at hf
  refine j_iconst (v := (1 : Int32)) hc dX12_isOver_15 ci_1 ?_
  refine j_goto (tgt := 20) hc dX12_isOver_16 rfl ?_
  exact j_zret hc dX12_isOver_20 rfl rfl (Or.inr rfl) hf

set_option maxRecDepth 100000 in
def fX12_isOver (n d : Nat) (I : am_I) (L : am_L) : Option (Int32 × am_I × am_L) :=
  if (I 0 25) = 0 then
    (fX12_isOver_b15 n d I L)
    else
    (am_b3 (fX12_wonBy n d I L) (fun v1 I1 L1 => if v1 = (-1 : Int32) then
      (some ((0 : Int32), I1, L1))
      else
      (fX12_isOver_b15 n d I1 L1)))

set_option maxRecDepth 100000 in
set_option maxHeartbeats 4000000 in
theorem tX12_isOver {x : am_X} (n d : Nat) (hc : am_ok x cX12_isOver yX12_isOver 1 (some .boolean) (d + 10) 0 0) {r : Int32} {I' : am_I} {L' : am_L} (I : am_I) (L : am_L) (hf : fX12_isOver n d I L = some (r, I', L')) : am_J x (fun S => S = (some (.int r), KM, RM, I', L')) 0 [some (.ref 0)] [] KM RM I L 0 0 := by
  unfold fX12_isOver at hf
  refine j_aload_n hc dX12_isOver_0 rfl ?_
  refine j_getI hc dX12_isOver_1 fgM_X12_250_0 ?_
  refine j_if_eq (tgt := 15) hc dX12_isOver_4 rfl hf (fun hf => ?_) (fun hf => ?_)
  · exact j_sub (tX12_isOver_b15 n d hc _ _ hf) (trivial)
  · refine j_aload_n hc dX12_isOver_7 rfl ?_
    refine j_callVI (t := 0) (As := []) hc dX12_isOver_8 kw_1818 mX12_wonBy kM_0 clX12 rfl (by omega) (Nat.le_of_ble_eq_true rfl) (Nat.le_of_ble_eq_true rfl) ⟨Nat.le_refl _, Nat.le_refl _⟩ hf (fun v I' L' h => qX12_wonBy x.2.1 n d I L v I' L' h) (fun v1 I1 L1 hf => ?_)
    refine j_iconst (v := (-1 : Int32)) hc dX12_isOver_11 ci_m1 ?_
    refine j_icmp_eq (tgt := 19) hc dX12_isOver_12 rfl hf (fun hf => ?_) (fun hf => ?_)
    · refine j_iconst (v := (0 : Int32)) hc dX12_isOver_19 ci_0 ?_
      exact j_zret hc dX12_isOver_20 rfl rfl (Or.inl rfl) hf
    · exact j_sub (tX12_isOver_b15 n d hc _ _ hf) (trivial)

set_option maxRecDepth 100000 in
theorem qX12_isOver (l : Launch) (n d : Nat) (I : am_I) (L : am_L) (r : Int32) (I' : am_I) (L' : am_L) (hf : fX12_isOver n d I L = some (r, I', L')) : am_C l yX12_isOver cX12_isOver 1 (some .boolean) (d + 10) [.ref 0] KM RM I L (some (.int r)) I' L' := by
  exact am_intro (plainFor_of_name plX12) (fun _ _ => trivial) (Nat.le_of_ble_eq_true rfl) (fun x hl hc => by subst hl; exact j_sub (tX12_isOver n d hc  _ _ hf) (And.intro rfl (trivial)))
set_option maxRecDepth 100000 in
def fX12_isFree (n d : Nat) (a1 : Int32) (I : am_I) (L : am_L) : Option (Int32 × am_I × am_L) :=
  am_b3 (fX12_isMan n d a1 I L) (fun v1 I1 L1 => if v1 = 0 then
    (some ((0 : Int32), I1, L1))
    else
    (am_b3 (fX12_isOver n d I1 L1) (fun v2 I2 L2 => if v2 = 0 then
      (am_b3 (fX12_isHome n d a1 I2 L2) (fun v3 I3 L3 => if v3 = 0 then
        (am_ck ((16 : Int32) + a1) 206 (am_lt (I3 17 (((16 : Int32) + a1)).toNatClampNeg) (fun v4 => if v4 = 0 then
          (some ((1 : Int32), I3, L3))
          else
          (some ((0 : Int32), I3, L3)))))
        else
        (some ((0 : Int32), I3, L3))))
      else
      (some ((0 : Int32), I2, L2)))))

set_option maxRecDepth 100000 in
set_option maxHeartbeats 4000000 in
theorem tX12_isFree {x : am_X} (n d : Nat) (hc : am_ok x cX12_isFree yX12_isFree 2 (some .boolean) (d + 11) 0 0) {r : Int32} {I' : am_I} {L' : am_L} (a1 : Int32) (I : am_I) (L : am_L) (hf : fX12_isFree n d a1 I L = some (r, I', L')) : am_J x (fun S => S = (some (.int r), KM, RM, I', L')) 0 [some (.ref 0), some (.int a1)] [] KM RM I L 0 0 := by
  unfold fX12_isFree at hf
  refine j_aload_n hc dX12_isFree_0 rfl ?_
  refine j_iload_n hc dX12_isFree_1 rfl ?_
  refine j_callVI (t := 0) (As := [.int a1]) hc dX12_isFree_2 kw_1768 mX12_isMan kM_0 clX12 rfl (by omega) (Nat.le_of_ble_eq_true rfl) (Nat.le_of_ble_eq_true rfl) ⟨Nat.le_refl _, Nat.le_refl _⟩ hf (fun v I' L' h => qX12_isMan x.2.1 n d a1 I L v I' L' h) (fun v1 I1 L1 hf => ?_)
  refine j_if_eq (tgt := 39) hc dX12_isFree_5 rfl hf (fun hf => ?_) (fun hf => ?_)
  · refine j_iconst (v := (0 : Int32)) hc dX12_isFree_39 ci_0 ?_
    exact j_zret hc dX12_isFree_40 rfl rfl (Or.inl rfl) hf
  · refine j_aload_n hc dX12_isFree_8 rfl ?_
    refine j_callVI (t := 0) (As := []) hc dX12_isFree_9 kw_1842 mX12_isOver kM_0 clX12 rfl (by omega) (Nat.le_of_ble_eq_true rfl) (Nat.le_of_ble_eq_true rfl) ⟨Nat.le_refl _, Nat.le_refl _⟩ hf (fun v I' L' h => qX12_isOver x.2.1 n d I1 L1 v I' L' h) (fun v2 I2 L2 hf => ?_)
    refine j_if_ne (tgt := 39) hc dX12_isFree_12 rfl hf (fun hf => ?_) (fun hf => ?_)
    · refine j_iconst (v := (0 : Int32)) hc dX12_isFree_39 ci_0 ?_
      exact j_zret hc dX12_isFree_40 rfl rfl (Or.inl rfl) hf
    · refine j_aload_n hc dX12_isFree_15 rfl ?_
      refine j_iload_n hc dX12_isFree_16 rfl ?_
      refine j_callVI (t := 0) (As := [.int a1]) hc dX12_isFree_17 kw_1772 mX12_isHome kM_0 clX12 rfl (by omega) (Nat.le_of_ble_eq_true rfl) (Nat.le_of_ble_eq_true rfl) ⟨Nat.le_refl _, Nat.le_refl _⟩ hf (fun v I' L' h => qX12_isHome x.2.1 n d a1 I2 L2 v I' L' h) (fun v3 I3 L3 hf => ?_)
      refine j_if_ne (tgt := 39) hc dX12_isFree_20 rfl hf (fun hf => ?_) (fun hf => ?_)
      · refine j_iconst (v := (0 : Int32)) hc dX12_isFree_39 ci_0 ?_
        exact j_zret hc dX12_isFree_40 rfl rfl (Or.inl rfl) hf
      · refine j_aload_n hc dX12_isFree_23 rfl ?_
        refine j_getR (u := 17) hc dX12_isFree_24 fgM_X12_58_0 rM_0_27 ?_
        refine j_bipush (v := (16 : Int32)) hc dX12_isFree_27 cb_16 ?_
        refine j_iload_n hc dX12_isFree_29 rfl ?_
        refine j_iadd hc dX12_isFree_30 ?_
        refine j_iaload (n := 206) hc dX12_isFree_31 kM_17 hf (fun v4 hf => ?_)
        refine j_if_ne (tgt := 39) hc dX12_isFree_32 rfl hf (fun hf => ?_) (fun hf => ?_)
        · refine j_iconst (v := (0 : Int32)) hc dX12_isFree_39 ci_0 ?_
          exact j_zret hc dX12_isFree_40 rfl rfl (Or.inl rfl) hf
        · refine j_iconst (v := (1 : Int32)) hc dX12_isFree_35 ci_1 ?_
          refine j_goto (tgt := 40) hc dX12_isFree_36 rfl ?_
          exact j_zret hc dX12_isFree_40 rfl rfl (Or.inr rfl) hf

set_option maxRecDepth 100000 in
theorem qX12_isFree (l : Launch) (n d : Nat) (a1 : Int32) (I : am_I) (L : am_L) (r : Int32) (I' : am_I) (L' : am_L) (hf : fX12_isFree n d a1 I L = some (r, I', L')) : am_C l yX12_isFree cX12_isFree 2 (some .boolean) (d + 11) [.ref 0, .int a1] KM RM I L (some (.int r)) I' L' := by
  exact am_intro (plainFor_of_name plX12) (fun _ _ => trivial) (Nat.le_of_ble_eq_true rfl) (fun x hl hc => by subst hl; exact j_sub (tX12_isFree n d hc _ _ _ hf) (And.intro rfl (And.intro rfl (trivial))))
set_option maxRecDepth 100000 in
def fX12_canGo (n d : Nat) (a1 : Int32) (I : am_I) (L : am_L) : Option (Int32 × am_I × am_L) :=
  am_b3 (fX12_isFree n d a1 I L) (fun v1 I1 L1 => if v1 = 0 then
    (some ((0 : Int32), I1, L1))
    else
    (am_ck ((0 : Int32) + a1) 206 (am_lt (I1 17 (((0 : Int32) + a1)).toNatClampNeg) (fun v2 => if v2 ≤ 0 then
      (some ((0 : Int32), I1, L1))
      else
      (some ((1 : Int32), I1, L1))))))

set_option maxRecDepth 100000 in
set_option maxHeartbeats 4000000 in
theorem tX12_canGo {x : am_X} (n d : Nat) (hc : am_ok x cX12_canGo yX12_canGo 2 (some .boolean) (d + 12) 0 0) {r : Int32} {I' : am_I} {L' : am_L} (a1 : Int32) (I : am_I) (L : am_L) (hf : fX12_canGo n d a1 I L = some (r, I', L')) : am_J x (fun S => S = (some (.int r), KM, RM, I', L')) 0 [some (.ref 0), some (.int a1)] [] KM RM I L 0 0 := by
  unfold fX12_canGo at hf
  refine j_aload_n hc dX12_canGo_0 rfl ?_
  refine j_iload_n hc dX12_canGo_1 rfl ?_
  refine j_callVI (t := 0) (As := [.int a1]) hc dX12_canGo_2 kw_1838 mX12_isFree kM_0 clX12 rfl (by omega) (Nat.le_of_ble_eq_true rfl) (Nat.le_of_ble_eq_true rfl) ⟨Nat.le_refl _, Nat.le_refl _⟩ hf (fun v I' L' h => qX12_isFree x.2.1 n d a1 I L v I' L' h) (fun v1 I1 L1 hf => ?_)
  refine j_if_eq (tgt := 23) hc dX12_canGo_5 rfl hf (fun hf => ?_) (fun hf => ?_)
  · refine j_iconst (v := (0 : Int32)) hc dX12_canGo_23 ci_0 ?_
    exact j_zret hc dX12_canGo_24 rfl rfl (Or.inl rfl) hf
  · refine j_aload_n hc dX12_canGo_8 rfl ?_
    refine j_getR (u := 17) hc dX12_canGo_9 fgM_X12_58_0 rM_0_27 ?_
    refine j_iconst (v := (0 : Int32)) hc dX12_canGo_12 ci_0 ?_
    refine j_iload_n hc dX12_canGo_13 rfl ?_
    refine j_iadd hc dX12_canGo_14 ?_
    refine j_iaload (n := 206) hc dX12_canGo_15 kM_17 hf (fun v2 hf => ?_)
    refine j_if_le (tgt := 23) hc dX12_canGo_16 rfl hf (fun hf => ?_) (fun hf => ?_)
    · refine j_iconst (v := (0 : Int32)) hc dX12_canGo_23 ci_0 ?_
      exact j_zret hc dX12_canGo_24 rfl rfl (Or.inl rfl) hf
    · refine j_iconst (v := (1 : Int32)) hc dX12_canGo_19 ci_1 ?_
      refine j_goto (tgt := 24) hc dX12_canGo_20 rfl ?_
      exact j_zret hc dX12_canGo_24 rfl rfl (Or.inr rfl) hf

set_option maxRecDepth 100000 in
theorem qX12_canGo (l : Launch) (n d : Nat) (a1 : Int32) (I : am_I) (L : am_L) (r : Int32) (I' : am_I) (L' : am_L) (hf : fX12_canGo n d a1 I L = some (r, I', L')) : am_C l yX12_canGo cX12_canGo 2 (some .boolean) (d + 12) [.ref 0, .int a1] KM RM I L (some (.int r)) I' L' := by
  exact am_intro (plainFor_of_name plX12) (fun _ _ => trivial) (Nat.le_of_ble_eq_true rfl) (fun x hl hc => by subst hl; exact j_sub (tX12_canGo n d hc _ _ _ hf) (And.intro rfl (And.intro rfl (trivial))))
set_option maxRecDepth 100000 in
def fX12_keep_b54w (n d : Nat) (k54 : Int32 → am_I → am_L → Option (am_I × am_L)) (a1 : Int32) (I : am_I) (L : am_L) : Option (am_I × am_L) :=
  if (206 : Int32) ≤ a1 then
    (am_lt (am_up I 0 30 ((I 0 30) + (1 : Int32))) (fun I1 => some (I1, L)))
    else
    (am_ck a1 206 (am_lt (I 17 (a1).toNatClampNeg) (fun v2 => am_ck (((206 : Int32) * (I 0 30)) + a1) 8240 (am_lt (am_up I 18 ((((206 : Int32) * (I 0 30)) + a1)).toNatClampNeg v2) (fun I3 => am_lt (a1 + (1 : Int32)) (fun v4 => k54 v4 I3 L))))))

set_option maxRecDepth 100000 in
set_option maxHeartbeats 4000000 in
theorem tX12_keep_b54w {x : am_X} (n d : Nat) (hc : am_ok x cX12_keep yX12_keep 2 none (d + 1) 0 0) {I' : am_I} {L' : am_L} (k54 : Int32 → am_I → am_L → Option (am_I × am_L)) (hk54 : ∀ (a1 : Int32) (I : am_I) (L : am_L), k54 a1 I L = some (I', L') → am_J x (fun S => S = (none, KM, RM, I', L')) 54 [some (.ref 0), some (.int a1)] [] KM RM I L 0 0) (a1 : Int32) (I : am_I) (L : am_L) (hf : fX12_keep_b54w n d k54 a1 I L = some (I', L')) : am_J x (fun S => S = (none, KM, RM, I', L')) 54 [some (.ref 0), some (.int a1)] [] KM RM I L 0 0 := by
  unfold fX12_keep_b54w at hf
  refine j_iload_n hc dX12_keep_54 rfl ?_
  refine j_sipush (v := (206 : Int32)) hc dX12_keep_55 cs_206 ?_
  refine j_icmp_ge (tgt := 88) hc dX12_keep_58 rfl hf (fun hf => ?_) (fun hf => ?_)
  · refine j_aload_n hc dX12_keep_88 rfl ?_
    refine j_dup hc dX12_keep_89 rfl ?_
    refine j_getI hc dX12_keep_90 fgM_X12_262_0 ?_
    refine j_iconst (v := (1 : Int32)) hc dX12_keep_93 ci_1 ?_
    refine j_iadd hc dX12_keep_94 ?_
    refine j_putI hc dX12_keep_95 fpM_X12_262_0 rfl rfl hf (fun I1 hf => ?_)
    exact j_return hc dX12_keep_98 rfl rfl hf
  · refine j_aload_n hc dX12_keep_61 rfl ?_
    refine j_getR (u := 18) hc dX12_keep_62 fgM_X12_65_0 rM_0_29 ?_
    refine j_sipush (v := (206 : Int32)) hc dX12_keep_65 cs_206 ?_
    refine j_aload_n hc dX12_keep_68 rfl ?_
    refine j_getI hc dX12_keep_69 fgM_X12_262_0 ?_
    refine j_imul hc dX12_keep_72 ?_
    refine j_iload_n hc dX12_keep_73 rfl ?_
    refine j_iadd hc dX12_keep_74 ?_
    refine j_aload_n hc dX12_keep_75 rfl ?_
    refine j_getR (u := 17) hc dX12_keep_76 fgM_X12_58_0 rM_0_27 ?_
    refine j_iload_n hc dX12_keep_79 rfl ?_
    refine j_iaload (n := 206) hc dX12_keep_80 kM_17 hf (fun v2 hf => ?_)
    refine j_iastore (n := 8240) hc dX12_keep_81 kM_18 hf (fun I3 hf => ?_)
    refine j_iinc (w := (1 : Int32)) hc dX12_keep_82 rfl ci_1 (Nat.le_of_ble_eq_true rfl) hf (fun v4 hf => ?_)
    refine j_goto (tgt := 54) hc dX12_keep_85 rfl ?_
    exact j_sub (hk54 _ _ _ hf) (And.intro rfl (And.intro rfl (trivial)))

def fX12_keep_b54 (n d : Nat) : Nat → Int32 → am_I → am_L → Option (am_I × am_L)
  | 0 => fun _ _ _ => none
  | m + 1 => fX12_keep_b54w n d  (fX12_keep_b54 n d m)

set_option maxRecDepth 100000 in
theorem tX12_keep_b54 {x : am_X} (n d : Nat) (hc : am_ok x cX12_keep yX12_keep 2 none (d + 1) 0 0) {I' : am_I} {L' : am_L} (m : Nat) : ∀ (a1 : Int32) (I : am_I) (L : am_L) (hf : fX12_keep_b54 n d m a1 I L = some (I', L')), am_J x (fun S => S = (none, KM, RM, I', L')) 54 [some (.ref 0), some (.int a1)] [] KM RM I L 0 0 := by
  induction m with
  | zero => intro a1 I L hf; exact (Option.some_ne_none _ hf.symm).elim
  | succ m ih => intro a1 I L hf; exact tX12_keep_b54w n d hc (fX12_keep_b54 n d m) ih a1 I L hf

set_option maxRecDepth 100000 in
def fX12_keep_b52 (n d : Nat) (I : am_I) (L : am_L) : Option (am_I × am_L) :=
  am_lt (0 : Int32) (fun v1 => fX12_keep_b54 n d n v1 I L)

set_option maxRecDepth 100000 in
set_option maxHeartbeats 4000000 in
theorem tX12_keep_b52 {x : am_X} (n d : Nat) (hc : am_ok x cX12_keep yX12_keep 2 none (d + 1) 0 0) {I' : am_I} {L' : am_L} (I : am_I) (L : am_L) (hf : fX12_keep_b52 n d I L = some (I', L')) : am_J x (fun S => S = (none, KM, RM, I', L')) 52 [some (.ref 0), none] [] KM RM I L 0 0 := by
  unfold fX12_keep_b52 at hf
  refine j_iconst (v := (0 : Int32)) hc dX12_keep_52 ci_0 ?_
  refine j_istore_n hc dX12_keep_53 (Nat.le_of_ble_eq_true rfl) hf (fun v1 hf => ?_)
  exact j_sub (tX12_keep_b54 n d hc n _ _ _ hf) (And.intro rfl (And.intro rfl (trivial)))

set_option maxRecDepth 100000 in
def fX12_keep_b13w (n d : Nat) (k13 : Int32 → am_I → am_L → Option (am_I × am_L)) (a1 : Int32) (I : am_I) (L : am_L) : Option (am_I × am_L) :=
  if (8240 : Int32) ≤ a1 then
    (am_lt (am_up I 0 30 ((I 0 30) - (1 : Int32))) (fun I1 => fX12_keep_b52 n d I1 L))
    else
    (am_ck a1 8240 (am_lt (I 18 (a1).toNatClampNeg) (fun v2 => am_ck (a1 - (206 : Int32)) 8240 (am_lt (am_up I 18 ((a1 - (206 : Int32))).toNatClampNeg v2) (fun I3 => am_lt (a1 + (1 : Int32)) (fun v4 => k13 v4 I3 L))))))

set_option maxRecDepth 100000 in
set_option maxHeartbeats 4000000 in
theorem tX12_keep_b13w {x : am_X} (n d : Nat) (hc : am_ok x cX12_keep yX12_keep 2 none (d + 1) 0 0) {I' : am_I} {L' : am_L} (k13 : Int32 → am_I → am_L → Option (am_I × am_L)) (hk13 : ∀ (a1 : Int32) (I : am_I) (L : am_L), k13 a1 I L = some (I', L') → am_J x (fun S => S = (none, KM, RM, I', L')) 13 [some (.ref 0), some (.int a1)] [] KM RM I L 0 0) (a1 : Int32) (I : am_I) (L : am_L) (hf : fX12_keep_b13w n d k13 a1 I L = some (I', L')) : am_J x (fun S => S = (none, KM, RM, I', L')) 13 [some (.ref 0), some (.int a1)] [] KM RM I L 0 0 := by
  unfold fX12_keep_b13w at hf
  refine j_iload_n hc dX12_keep_13 rfl ?_
  refine j_sipush (v := (8240 : Int32)) hc dX12_keep_14 cs_8240 ?_
  refine j_icmp_ge (tgt := 42) hc dX12_keep_17 rfl hf (fun hf => ?_) (fun hf => ?_)
  · refine j_aload_n hc dX12_keep_42 rfl ?_
    refine j_dup hc dX12_keep_43 rfl ?_
    refine j_getI hc dX12_keep_44 fgM_X12_262_0 ?_
    refine j_iconst (v := (1 : Int32)) hc dX12_keep_47 ci_1 ?_
    refine j_isub hc dX12_keep_48 ?_
    refine j_putI hc dX12_keep_49 fpM_X12_262_0 rfl rfl hf (fun I1 hf => ?_)
    exact j_sub (tX12_keep_b52 n d hc _ _ hf) (And.intro rfl (trivial))
  · refine j_aload_n hc dX12_keep_20 rfl ?_
    refine j_getR (u := 18) hc dX12_keep_21 fgM_X12_65_0 rM_0_29 ?_
    refine j_iload_n hc dX12_keep_24 rfl ?_
    refine j_sipush (v := (206 : Int32)) hc dX12_keep_25 cs_206 ?_
    refine j_isub hc dX12_keep_28 ?_
    refine j_aload_n hc dX12_keep_29 rfl ?_
    refine j_getR (u := 18) hc dX12_keep_30 fgM_X12_65_0 rM_0_29 ?_
    refine j_iload_n hc dX12_keep_33 rfl ?_
    refine j_iaload (n := 8240) hc dX12_keep_34 kM_18 hf (fun v2 hf => ?_)
    refine j_iastore (n := 8240) hc dX12_keep_35 kM_18 hf (fun I3 hf => ?_)
    refine j_iinc (w := (1 : Int32)) hc dX12_keep_36 rfl ci_1 (Nat.le_of_ble_eq_true rfl) hf (fun v4 hf => ?_)
    refine j_goto (tgt := 13) hc dX12_keep_39 rfl ?_
    exact j_sub (hk13 _ _ _ hf) (And.intro rfl (And.intro rfl (trivial)))

def fX12_keep_b13 (n d : Nat) : Nat → Int32 → am_I → am_L → Option (am_I × am_L)
  | 0 => fun _ _ _ => none
  | m + 1 => fX12_keep_b13w n d  (fX12_keep_b13 n d m)

set_option maxRecDepth 100000 in
theorem tX12_keep_b13 {x : am_X} (n d : Nat) (hc : am_ok x cX12_keep yX12_keep 2 none (d + 1) 0 0) {I' : am_I} {L' : am_L} (m : Nat) : ∀ (a1 : Int32) (I : am_I) (L : am_L) (hf : fX12_keep_b13 n d m a1 I L = some (I', L')), am_J x (fun S => S = (none, KM, RM, I', L')) 13 [some (.ref 0), some (.int a1)] [] KM RM I L 0 0 := by
  induction m with
  | zero => intro a1 I L hf; exact (Option.some_ne_none _ hf.symm).elim
  | succ m ih => intro a1 I L hf; exact tX12_keep_b13w n d hc (fX12_keep_b13 n d m) ih a1 I L hf

set_option maxRecDepth 100000 in
def fX12_keep (n d : Nat) (I : am_I) (L : am_L) : Option (am_I × am_L) :=
  if (I 0 30) = (40 : Int32) then
    (am_lt (206 : Int32) (fun v1 => fX12_keep_b13 n d n v1 I L))
    else
    (fX12_keep_b52 n d I L)

set_option maxRecDepth 100000 in
set_option maxHeartbeats 4000000 in
theorem tX12_keep {x : am_X} (n d : Nat) (hc : am_ok x cX12_keep yX12_keep 2 none (d + 1) 0 0) {I' : am_I} {L' : am_L} (I : am_I) (L : am_L) (hf : fX12_keep n d I L = some (I', L')) : am_J x (fun S => S = (none, KM, RM, I', L')) 0 [some (.ref 0), none] [] KM RM I L 0 0 := by
  unfold fX12_keep at hf
  refine j_aload_n hc dX12_keep_0 rfl ?_
  refine j_getI hc dX12_keep_1 fgM_X12_262_0 ?_
  refine j_bipush (v := (40 : Int32)) hc dX12_keep_4 cb_40 ?_
  refine j_icmp_ne (tgt := 52) hc dX12_keep_6 rfl hf (fun hf => ?_) (fun hf => ?_)
  · exact j_sub (tX12_keep_b52 n d hc _ _ hf) (And.intro rfl (trivial))
  · refine j_sipush (v := (206 : Int32)) hc dX12_keep_9 cs_206 ?_
    refine j_istore_n hc dX12_keep_12 (Nat.le_of_ble_eq_true rfl) hf (fun v1 hf => ?_)
    exact j_sub (tX12_keep_b13 n d hc n _ _ _ hf) (And.intro rfl (And.intro rfl (trivial)))

set_option maxRecDepth 100000 in
theorem qX12_keep (l : Launch) (n d : Nat) (I : am_I) (L : am_L) (I' : am_I) (L' : am_L) (hf : fX12_keep n d I L = some (I', L')) : am_C l yX12_keep cX12_keep 2 none (d + 1) [.ref 0] KM RM I L none I' L' := by
  exact am_intro (plainFor_of_name plX12) (fun _ _ => trivial) (Nat.le_of_ble_eq_true rfl) (fun x hl hc => by subst hl; exact j_sub (tX12_keep n d hc  _ _ hf) (And.intro rfl (trivial)))
set_option maxRecDepth 100000 in
def fX12_note_b62 (n d : Nat) (a1 : Int32) (a2 : Int32) (a3 : Int32) (I : am_I) (L : am_L) : Option (am_I × am_L) :=
  am_ck (25 : Int32) 206 (am_lt (I 17 ((25 : Int32)).toNatClampNeg) (fun v1 => am_lt ((26 : Int32) + ((3 : Int32) * v1)) (fun v2 => am_ck v2 206 (am_lt (am_up I 17 (v2).toNatClampNeg a1) (fun I3 => am_ck (v2 + (1 : Int32)) 206 (am_lt (am_up I3 17 ((v2 + (1 : Int32))).toNatClampNeg a2) (fun I4 => am_ck (v2 + (2 : Int32)) 206 (am_lt (am_up I4 17 ((v2 + (2 : Int32))).toNatClampNeg a3) (fun I5 => am_ck (25 : Int32) 206 (am_lt (I5 17 ((25 : Int32)).toNatClampNeg) (fun v6 => am_ck (25 : Int32) 206 (am_lt (am_up I5 17 ((25 : Int32)).toNatClampNeg (v6 + (1 : Int32))) (fun I7 => some (I7, L))))))))))))))

set_option maxRecDepth 100000 in
set_option maxHeartbeats 4000000 in
theorem tX12_note_b62 {x : am_X} (n d : Nat) (hc : am_ok x cX12_note yX12_note 5 none (d + 1) 0 0) {I' : am_I} {L' : am_L} (a1 : Int32) (a2 : Int32) (a3 : Int32) (I : am_I) (L : am_L) (hf : fX12_note_b62 n d a1 a2 a3 I L = some (I', L')) : am_J x (fun S => S = (none, KM, RM, I', L')) 62 [some (.ref 0), some (.int a1), some (.int a2), some (.int a3), none] [] KM RM I L 0 0 := by
  unfold fX12_note_b62 at hf
  refine j_bipush (v := (26 : Int32)) hc dX12_note_62 cb_26 ?_
  refine j_iconst (v := (3 : Int32)) hc dX12_note_64 ci_3 ?_
  refine j_aload_n hc dX12_note_65 rfl ?_
  refine j_getR (u := 17) hc dX12_note_66 fgM_X12_58_0 rM_0_27 ?_
  refine j_bipush (v := (25 : Int32)) hc dX12_note_69 cb_25 ?_
  refine j_iaload (n := 206) hc dX12_note_71 kM_17 hf (fun v1 hf => ?_)
  refine j_imul hc dX12_note_72 ?_
  refine j_iadd hc dX12_note_73 ?_
  refine j_istore hc dX12_note_74 (Nat.le_of_ble_eq_true rfl) hf (fun v2 hf => ?_)
  refine j_aload_n hc dX12_note_76 rfl ?_
  refine j_getR (u := 17) hc dX12_note_77 fgM_X12_58_0 rM_0_27 ?_
  refine j_iload hc dX12_note_80 rfl ?_
  refine j_iload_n hc dX12_note_82 rfl ?_
  refine j_iastore (n := 206) hc dX12_note_83 kM_17 hf (fun I3 hf => ?_)
  refine j_aload_n hc dX12_note_84 rfl ?_
  refine j_getR (u := 17) hc dX12_note_85 fgM_X12_58_0 rM_0_27 ?_
  refine j_iload hc dX12_note_88 rfl ?_
  refine j_iconst (v := (1 : Int32)) hc dX12_note_90 ci_1 ?_
  refine j_iadd hc dX12_note_91 ?_
  refine j_iload_n hc dX12_note_92 rfl ?_
  refine j_iastore (n := 206) hc dX12_note_93 kM_17 hf (fun I4 hf => ?_)
  refine j_aload_n hc dX12_note_94 rfl ?_
  refine j_getR (u := 17) hc dX12_note_95 fgM_X12_58_0 rM_0_27 ?_
  refine j_iload hc dX12_note_98 rfl ?_
  refine j_iconst (v := (2 : Int32)) hc dX12_note_100 ci_2 ?_
  refine j_iadd hc dX12_note_101 ?_
  refine j_iload_n hc dX12_note_102 rfl ?_
  refine j_iastore (n := 206) hc dX12_note_103 kM_17 hf (fun I5 hf => ?_)
  refine j_aload_n hc dX12_note_104 rfl ?_
  refine j_getR (u := 17) hc dX12_note_105 fgM_X12_58_0 rM_0_27 ?_
  refine j_bipush (v := (25 : Int32)) hc dX12_note_108 cb_25 ?_
  refine j_dup2 hc dX12_note_110 rfl rfl ?_
  refine j_iaload (n := 206) hc dX12_note_111 kM_17 hf (fun v6 hf => ?_)
  refine j_iconst (v := (1 : Int32)) hc dX12_note_112 ci_1 ?_
  refine j_iadd hc dX12_note_113 ?_
  refine j_iastore (n := 206) hc dX12_note_114 kM_17 hf (fun I7 hf => ?_)
  exact j_return hc dX12_note_115 rfl rfl hf

set_option maxRecDepth 100000 in
def fX12_note_b15w (n d : Nat) (k15 : Int32 → Int32 → Int32 → Int32 → am_I → am_L → Option (am_I × am_L)) (a1 : Int32) (a2 : Int32) (a3 : Int32) (a4 : Int32) (I : am_I) (L : am_L) : Option (am_I × am_L) :=
  if (180 : Int32) ≤ a4 then
    (am_ck (25 : Int32) 206 (am_lt (I 17 ((25 : Int32)).toNatClampNeg) (fun v1 => am_ck (25 : Int32) 206 (am_lt (am_up I 17 ((25 : Int32)).toNatClampNeg (v1 - (1 : Int32))) (fun I2 => fX12_note_b62 n d a1 a2 a3 I2 L)))))
    else
    (am_ck ((26 : Int32) + a4) 206 (am_lt (I 17 (((26 : Int32) + a4)).toNatClampNeg) (fun v3 => am_ck (((26 : Int32) + a4) - (3 : Int32)) 206 (am_lt (am_up I 17 ((((26 : Int32) + a4) - (3 : Int32))).toNatClampNeg v3) (fun I4 => am_lt (a4 + (1 : Int32)) (fun v5 => k15 a1 a2 a3 v5 I4 L))))))

set_option maxRecDepth 100000 in
set_option maxHeartbeats 4000000 in
theorem tX12_note_b15w {x : am_X} (n d : Nat) (hc : am_ok x cX12_note yX12_note 5 none (d + 1) 0 0) {I' : am_I} {L' : am_L} (k15 : Int32 → Int32 → Int32 → Int32 → am_I → am_L → Option (am_I × am_L)) (hk15 : ∀ (a1 : Int32) (a2 : Int32) (a3 : Int32) (a4 : Int32) (I : am_I) (L : am_L), k15 a1 a2 a3 a4 I L = some (I', L') → am_J x (fun S => S = (none, KM, RM, I', L')) 15 [some (.ref 0), some (.int a1), some (.int a2), some (.int a3), some (.int a4)] [] KM RM I L 0 0) (a1 : Int32) (a2 : Int32) (a3 : Int32) (a4 : Int32) (I : am_I) (L : am_L) (hf : fX12_note_b15w n d k15 a1 a2 a3 a4 I L = some (I', L')) : am_J x (fun S => S = (none, KM, RM, I', L')) 15 [some (.ref 0), some (.int a1), some (.int a2), some (.int a3), some (.int a4)] [] KM RM I L 0 0 := by
  unfold fX12_note_b15w at hf
  refine j_iload hc dX12_note_15 rfl ?_
  refine j_sipush (v := (180 : Int32)) hc dX12_note_17 cs_180 ?_
  refine j_icmp_ge (tgt := 51) hc dX12_note_20 rfl hf (fun hf => ?_) (fun hf => ?_)
  · refine j_aload_n hc dX12_note_51 rfl ?_
    refine j_getR (u := 17) hc dX12_note_52 fgM_X12_58_0 rM_0_27 ?_
    refine j_bipush (v := (25 : Int32)) hc dX12_note_55 cb_25 ?_
    refine j_dup2 hc dX12_note_57 rfl rfl ?_
    refine j_iaload (n := 206) hc dX12_note_58 kM_17 hf (fun v1 hf => ?_)
    refine j_iconst (v := (1 : Int32)) hc dX12_note_59 ci_1 ?_
    refine j_isub hc dX12_note_60 ?_
    refine j_iastore (n := 206) hc dX12_note_61 kM_17 hf (fun I2 hf => ?_)
    exact j_sub (tX12_note_b62 n d hc _ _ _ _ _ hf) (And.intro rfl (And.intro rfl (And.intro rfl (And.intro rfl (trivial)))))
  · refine j_aload_n hc dX12_note_23 rfl ?_
    refine j_getR (u := 17) hc dX12_note_24 fgM_X12_58_0 rM_0_27 ?_
    refine j_bipush (v := (26 : Int32)) hc dX12_note_27 cb_26 ?_
    refine j_iload hc dX12_note_29 rfl ?_
    refine j_iadd hc dX12_note_31 ?_
    refine j_iconst (v := (3 : Int32)) hc dX12_note_32 ci_3 ?_
    refine j_isub hc dX12_note_33 ?_
    refine j_aload_n hc dX12_note_34 rfl ?_
    refine j_getR (u := 17) hc dX12_note_35 fgM_X12_58_0 rM_0_27 ?_
    refine j_bipush (v := (26 : Int32)) hc dX12_note_38 cb_26 ?_
    refine j_iload hc dX12_note_40 rfl ?_
    refine j_iadd hc dX12_note_42 ?_
    refine j_iaload (n := 206) hc dX12_note_43 kM_17 hf (fun v3 hf => ?_)
    refine j_iastore (n := 206) hc dX12_note_44 kM_17 hf (fun I4 hf => ?_)
    refine j_iinc (w := (1 : Int32)) hc dX12_note_45 rfl ci_1 (Nat.le_of_ble_eq_true rfl) hf (fun v5 hf => ?_)
    refine j_goto (tgt := 15) hc dX12_note_48 rfl ?_
    exact j_sub (hk15 _ _ _ _ _ _ hf) (And.intro rfl (And.intro rfl (And.intro rfl (And.intro rfl (And.intro rfl (trivial))))))

def fX12_note_b15 (n d : Nat) : Nat → Int32 → Int32 → Int32 → Int32 → am_I → am_L → Option (am_I × am_L)
  | 0 => fun _ _ _ _ _ _ => none
  | m + 1 => fX12_note_b15w n d  (fX12_note_b15 n d m)

set_option maxRecDepth 100000 in
theorem tX12_note_b15 {x : am_X} (n d : Nat) (hc : am_ok x cX12_note yX12_note 5 none (d + 1) 0 0) {I' : am_I} {L' : am_L} (m : Nat) : ∀ (a1 : Int32) (a2 : Int32) (a3 : Int32) (a4 : Int32) (I : am_I) (L : am_L) (hf : fX12_note_b15 n d m a1 a2 a3 a4 I L = some (I', L')), am_J x (fun S => S = (none, KM, RM, I', L')) 15 [some (.ref 0), some (.int a1), some (.int a2), some (.int a3), some (.int a4)] [] KM RM I L 0 0 := by
  induction m with
  | zero => intro a1 a2 a3 a4 I L hf; exact (Option.some_ne_none _ hf.symm).elim
  | succ m ih => intro a1 a2 a3 a4 I L hf; exact tX12_note_b15w n d hc (fX12_note_b15 n d m) ih a1 a2 a3 a4 I L hf

set_option maxRecDepth 100000 in
def fX12_note (n d : Nat) (a1 : Int32) (a2 : Int32) (a3 : Int32) (I : am_I) (L : am_L) : Option (am_I × am_L) :=
  am_ck (25 : Int32) 206 (am_lt (I 17 ((25 : Int32)).toNatClampNeg) (fun v1 => if v1 = (60 : Int32) then
    (am_lt (3 : Int32) (fun v2 => fX12_note_b15 n d n a1 a2 a3 v2 I L))
    else
    (fX12_note_b62 n d a1 a2 a3 I L)))

set_option maxRecDepth 100000 in
set_option maxHeartbeats 4000000 in
theorem tX12_note {x : am_X} (n d : Nat) (hc : am_ok x cX12_note yX12_note 5 none (d + 1) 0 0) {I' : am_I} {L' : am_L} (a1 : Int32) (a2 : Int32) (a3 : Int32) (I : am_I) (L : am_L) (hf : fX12_note n d a1 a2 a3 I L = some (I', L')) : am_J x (fun S => S = (none, KM, RM, I', L')) 0 [some (.ref 0), some (.int a1), some (.int a2), some (.int a3), none] [] KM RM I L 0 0 := by
  unfold fX12_note at hf
  refine j_aload_n hc dX12_note_0 rfl ?_
  refine j_getR (u := 17) hc dX12_note_1 fgM_X12_58_0 rM_0_27 ?_
  refine j_bipush (v := (25 : Int32)) hc dX12_note_4 cb_25 ?_
  refine j_iaload (n := 206) hc dX12_note_6 kM_17 hf (fun v1 hf => ?_)
  refine j_bipush (v := (60 : Int32)) hc dX12_note_7 cb_60 ?_
  refine j_icmp_ne (tgt := 62) hc dX12_note_9 rfl hf (fun hf => ?_) (fun hf => ?_)
  · exact j_sub (tX12_note_b62 n d hc _ _ _ _ _ hf) (And.intro rfl (And.intro rfl (And.intro rfl (And.intro rfl (trivial)))))
  · refine j_iconst (v := (3 : Int32)) hc dX12_note_12 ci_3 ?_
    refine j_istore hc dX12_note_13 (Nat.le_of_ble_eq_true rfl) hf (fun v2 hf => ?_)
    exact j_sub (tX12_note_b15 n d hc n _ _ _ _ _ _ hf) (And.intro rfl (And.intro rfl (And.intro rfl (And.intro rfl (And.intro rfl (trivial))))))

set_option maxRecDepth 100000 in
theorem qX12_note (l : Launch) (n d : Nat) (a1 : Int32) (a2 : Int32) (a3 : Int32) (I : am_I) (L : am_L) (I' : am_I) (L' : am_L) (hf : fX12_note n d a1 a2 a3 I L = some (I', L')) : am_C l yX12_note cX12_note 5 none (d + 1) [.ref 0, .int a1, .int a2, .int a3] KM RM I L none I' L' := by
  exact am_intro (plainFor_of_name plX12) (fun _ _ => trivial) (Nat.le_of_ble_eq_true rfl) (fun x hl hc => by subst hl; exact j_sub (tX12_note n d hc _ _ _ _ _ hf) (And.intro rfl (And.intro rfl (And.intro rfl (And.intro rfl (trivial))))))
set_option maxRecDepth 100000 in
def fX12_goNow (n d : Nat) (a1 : Int32) (I : am_I) (L : am_L) : Option (am_I × am_L) :=
  am_ck ((0 : Int32) + a1) 206 (am_lt (I 17 (((0 : Int32) + a1)).toNatClampNeg) (fun v1 => am_b2 (fX12_comes n d a1 (v1 - (1 : Int32)) I L) (fun I2 L2 => am_ck ((16 : Int32) + a1) 206 (am_lt (am_up I2 17 (((16 : Int32) + a1)).toNatClampNeg (1 : Int32)) (fun I3 => am_b2 (fX12_note n d (0 : Int32) a1 (-1 : Int32) I3 L2) (fun I4 L4 => some (I4, L4)))))))

set_option maxRecDepth 100000 in
set_option maxHeartbeats 4000000 in
theorem tX12_goNow {x : am_X} (n d : Nat) (hc : am_ok x cX12_goNow yX12_goNow 2 none (d + 3) 0 0) {I' : am_I} {L' : am_L} (a1 : Int32) (I : am_I) (L : am_L) (hf : fX12_goNow n d a1 I L = some (I', L')) : am_J x (fun S => S = (none, KM, RM, I', L')) 0 [some (.ref 0), some (.int a1)] [] KM RM I L 0 0 := by
  unfold fX12_goNow at hf
  refine j_aload_n hc dX12_goNow_0 rfl ?_
  refine j_iload_n hc dX12_goNow_1 rfl ?_
  refine j_aload_n hc dX12_goNow_2 rfl ?_
  refine j_getR (u := 17) hc dX12_goNow_3 fgM_X12_58_0 rM_0_27 ?_
  refine j_iconst (v := (0 : Int32)) hc dX12_goNow_6 ci_0 ?_
  refine j_iload_n hc dX12_goNow_7 rfl ?_
  refine j_iadd hc dX12_goNow_8 ?_
  refine j_iaload (n := 206) hc dX12_goNow_9 kM_17 hf (fun v1 hf => ?_)
  refine j_iconst (v := (1 : Int32)) hc dX12_goNow_10 ci_1 ?_
  refine j_isub hc dX12_goNow_11 ?_
  refine j_callVV (t := 0) (As := [.int a1, .int (v1 - (1 : Int32))]) hc dX12_goNow_12 kw_1756 mX12_comes kM_0 clX12 rfl (by omega) (Nat.le_of_ble_eq_true rfl) (Nat.le_of_ble_eq_true rfl) ⟨Nat.le_refl _, Nat.le_refl _⟩ hf (fun I' L' h => qX12_comes x.2.1 n d a1 (v1 - (1 : Int32)) I L I' L' h) (fun I2 L2 hf => ?_)
  refine j_aload_n hc dX12_goNow_15 rfl ?_
  refine j_getR (u := 17) hc dX12_goNow_16 fgM_X12_58_0 rM_0_27 ?_
  refine j_bipush (v := (16 : Int32)) hc dX12_goNow_19 cb_16 ?_
  refine j_iload_n hc dX12_goNow_21 rfl ?_
  refine j_iadd hc dX12_goNow_22 ?_
  refine j_iconst (v := (1 : Int32)) hc dX12_goNow_23 ci_1 ?_
  refine j_iastore (n := 206) hc dX12_goNow_24 kM_17 hf (fun I3 hf => ?_)
  refine j_aload_n hc dX12_goNow_25 rfl ?_
  refine j_iconst (v := (0 : Int32)) hc dX12_goNow_26 ci_0 ?_
  refine j_iload_n hc dX12_goNow_27 rfl ?_
  refine j_iconst (v := (-1 : Int32)) hc dX12_goNow_28 ci_m1 ?_
  refine j_callVV (t := 0) (As := [.int (0 : Int32), .int a1, .int (-1 : Int32)]) hc dX12_goNow_29 kw_1854 mX12_note kM_0 clX12 rfl (by omega) (Nat.le_of_ble_eq_true rfl) (Nat.le_of_ble_eq_true rfl) ⟨Nat.le_refl _, Nat.le_refl _⟩ hf (fun I' L' h => qX12_note x.2.1 n d (0 : Int32) a1 (-1 : Int32) I3 L2 I' L' h) (fun I4 L4 hf => ?_)
  exact j_return hc dX12_goNow_32 rfl rfl hf

set_option maxRecDepth 100000 in
theorem qX12_goNow (l : Launch) (n d : Nat) (a1 : Int32) (I : am_I) (L : am_L) (I' : am_I) (L' : am_L) (hf : fX12_goNow n d a1 I L = some (I', L')) : am_C l yX12_goNow cX12_goNow 2 none (d + 3) [.ref 0, .int a1] KM RM I L none I' L' := by
  exact am_intro (plainFor_of_name plX12) (fun _ _ => trivial) (Nat.le_of_ble_eq_true rfl) (fun x hl hc => by subst hl; exact j_sub (tX12_goNow n d hc _ _ _ hf) (And.intro rfl (And.intro rfl (trivial))))
set_option maxRecDepth 100000 in
def fX12_go (n d : Nat) (a1 : Int32) (I : am_I) (L : am_L) : Option (Int32 × am_I × am_L) :=
  am_b3 (fX12_canGo n d a1 I L) (fun v1 I1 L1 => if v1 = 0 then
    (some ((-1 : Int32), I1, L1))
    else
    (am_b2 (fX12_keep n d I1 L1) (fun I2 L2 => am_b2 (fX12_goNow n d a1 I2 L2) (fun I3 L3 => am_ck ((0 : Int32) + a1) 206 (am_lt (I3 17 (((0 : Int32) + a1)).toNatClampNeg) (fun v4 => some (v4, I3, L3)))))))

set_option maxRecDepth 100000 in
set_option maxHeartbeats 4000000 in
theorem tX12_go {x : am_X} (n d : Nat) (hc : am_ok x cX12_go yX12_go 2 (some .int) (d + 13) 0 0) {r : Int32} {I' : am_I} {L' : am_L} (a1 : Int32) (I : am_I) (L : am_L) (hf : fX12_go n d a1 I L = some (r, I', L')) : am_J x (fun S => S = (some (.int r), KM, RM, I', L')) 0 [some (.ref 0), some (.int a1)] [] KM RM I L 0 0 := by
  unfold fX12_go at hf
  refine j_aload_n hc dX12_go_0 rfl ?_
  refine j_iload_n hc dX12_go_1 rfl ?_
  refine j_callVI (t := 0) (As := [.int a1]) hc dX12_go_2 kw_1834 mX12_canGo kM_0 clX12 rfl (by omega) (Nat.le_of_ble_eq_true rfl) (Nat.le_of_ble_eq_true rfl) ⟨Nat.le_refl _, Nat.le_refl _⟩ hf (fun v I' L' h => qX12_canGo x.2.1 n d a1 I L v I' L' h) (fun v1 I1 L1 hf => ?_)
  refine j_if_ne (tgt := 10) hc dX12_go_5 rfl hf (fun hf => ?_) (fun hf => ?_)
  · refine j_aload_n hc dX12_go_10 rfl ?_
    refine j_callVV (t := 0) (As := []) hc dX12_go_11 kw_1846 mX12_keep kM_0 clX12 rfl (by omega) (Nat.le_of_ble_eq_true rfl) (Nat.le_of_ble_eq_true rfl) ⟨Nat.le_refl _, Nat.le_refl _⟩ hf (fun I' L' h => qX12_keep x.2.1 n d I1 L1 I' L' h) (fun I2 L2 hf => ?_)
    refine j_aload_n hc dX12_go_14 rfl ?_
    refine j_iload_n hc dX12_go_15 rfl ?_
    refine j_callVV (t := 0) (As := [.int a1]) hc dX12_go_16 kw_1850 mX12_goNow kM_0 clX12 rfl (by omega) (Nat.le_of_ble_eq_true rfl) (Nat.le_of_ble_eq_true rfl) ⟨Nat.le_refl _, Nat.le_refl _⟩ hf (fun I' L' h => qX12_goNow x.2.1 n d a1 I2 L2 I' L' h) (fun I3 L3 hf => ?_)
    refine j_aload_n hc dX12_go_19 rfl ?_
    refine j_getR (u := 17) hc dX12_go_20 fgM_X12_58_0 rM_0_27 ?_
    refine j_iconst (v := (0 : Int32)) hc dX12_go_23 ci_0 ?_
    refine j_iload_n hc dX12_go_24 rfl ?_
    refine j_iadd hc dX12_go_25 ?_
    refine j_iaload (n := 206) hc dX12_go_26 kM_17 hf (fun v4 hf => ?_)
    exact j_ireturn hc dX12_go_27 rfl rfl hf
  · refine j_iconst (v := (-1 : Int32)) hc dX12_go_8 ci_m1 ?_
    exact j_ireturn hc dX12_go_9 rfl rfl hf

set_option maxRecDepth 100000 in
theorem qX12_go (l : Launch) (n d : Nat) (a1 : Int32) (I : am_I) (L : am_L) (r : Int32) (I' : am_I) (L' : am_L) (hf : fX12_go n d a1 I L = some (r, I', L')) : am_C l yX12_go cX12_go 2 (some .int) (d + 13) [.ref 0, .int a1] KM RM I L (some (.int r)) I' L' := by
  exact am_intro (plainFor_of_name plX12) (fun _ _ => trivial) (Nat.le_of_ble_eq_true rfl) (fun x hl hc => by subst hl; exact j_sub (tX12_go n d hc _ _ _ hf) (And.intro rfl (And.intro rfl (trivial))))
set_option maxRecDepth 100000 in
def fX12_canStay (n d : Nat) (a1 : Int32) (I : am_I) (L : am_L) : Option (Int32 × am_I × am_L) :=
  am_b3 (fX12_isFree n d a1 I L) (fun v1 I1 L1 => if v1 = 0 then
    (some ((0 : Int32), I1, L1))
    else
    (am_ck ((8 : Int32) + a1) 206 (am_lt (I1 17 (((8 : Int32) + a1)).toNatClampNeg) (fun v2 => if v2 ≤ 0 then
      (some ((0 : Int32), I1, L1))
      else
      (some ((1 : Int32), I1, L1))))))

set_option maxRecDepth 100000 in
set_option maxHeartbeats 4000000 in
theorem tX12_canStay {x : am_X} (n d : Nat) (hc : am_ok x cX12_canStay yX12_canStay 2 (some .boolean) (d + 12) 0 0) {r : Int32} {I' : am_I} {L' : am_L} (a1 : Int32) (I : am_I) (L : am_L) (hf : fX12_canStay n d a1 I L = some (r, I', L')) : am_J x (fun S => S = (some (.int r), KM, RM, I', L')) 0 [some (.ref 0), some (.int a1)] [] KM RM I L 0 0 := by
  unfold fX12_canStay at hf
  refine j_aload_n hc dX12_canStay_0 rfl ?_
  refine j_iload_n hc dX12_canStay_1 rfl ?_
  refine j_callVI (t := 0) (As := [.int a1]) hc dX12_canStay_2 kw_1838 mX12_isFree kM_0 clX12 rfl (by omega) (Nat.le_of_ble_eq_true rfl) (Nat.le_of_ble_eq_true rfl) ⟨Nat.le_refl _, Nat.le_refl _⟩ hf (fun v I' L' h => qX12_isFree x.2.1 n d a1 I L v I' L' h) (fun v1 I1 L1 hf => ?_)
  refine j_if_eq (tgt := 24) hc dX12_canStay_5 rfl hf (fun hf => ?_) (fun hf => ?_)
  · refine j_iconst (v := (0 : Int32)) hc dX12_canStay_24 ci_0 ?_
    exact j_zret hc dX12_canStay_25 rfl rfl (Or.inl rfl) hf
  · refine j_aload_n hc dX12_canStay_8 rfl ?_
    refine j_getR (u := 17) hc dX12_canStay_9 fgM_X12_58_0 rM_0_27 ?_
    refine j_bipush (v := (8 : Int32)) hc dX12_canStay_12 cb_8 ?_
    refine j_iload_n hc dX12_canStay_14 rfl ?_
    refine j_iadd hc dX12_canStay_15 ?_
    refine j_iaload (n := 206) hc dX12_canStay_16 kM_17 hf (fun v2 hf => ?_)
    refine j_if_le (tgt := 24) hc dX12_canStay_17 rfl hf (fun hf => ?_) (fun hf => ?_)
    · refine j_iconst (v := (0 : Int32)) hc dX12_canStay_24 ci_0 ?_
      exact j_zret hc dX12_canStay_25 rfl rfl (Or.inl rfl) hf
    · refine j_iconst (v := (1 : Int32)) hc dX12_canStay_20 ci_1 ?_
      refine j_goto (tgt := 25) hc dX12_canStay_21 rfl ?_
      exact j_zret hc dX12_canStay_25 rfl rfl (Or.inr rfl) hf

set_option maxRecDepth 100000 in
theorem qX12_canStay (l : Launch) (n d : Nat) (a1 : Int32) (I : am_I) (L : am_L) (r : Int32) (I' : am_I) (L' : am_L) (hf : fX12_canStay n d a1 I L = some (r, I', L')) : am_C l yX12_canStay cX12_canStay 2 (some .boolean) (d + 12) [.ref 0, .int a1] KM RM I L (some (.int r)) I' L' := by
  exact am_intro (plainFor_of_name plX12) (fun _ _ => trivial) (Nat.le_of_ble_eq_true rfl) (fun x hl hc => by subst hl; exact j_sub (tX12_canStay n d hc _ _ _ hf) (And.intro rfl (And.intro rfl (trivial))))
set_option maxRecDepth 100000 in
def fX12_stayNow (n d : Nat) (a1 : Int32) (I : am_I) (L : am_L) : Option (am_I × am_L) :=
  am_ck ((8 : Int32) + a1) 206 (am_lt (I 17 (((8 : Int32) + a1)).toNatClampNeg) (fun v1 => am_ck ((8 : Int32) + a1) 206 (am_lt (am_up I 17 (((8 : Int32) + a1)).toNatClampNeg (v1 - (1 : Int32))) (fun I2 => am_ck ((16 : Int32) + a1) 206 (am_lt (am_up I2 17 (((16 : Int32) + a1)).toNatClampNeg (1 : Int32)) (fun I3 => am_b2 (fX12_note n d (1 : Int32) a1 (-1 : Int32) I3 L) (fun I4 L4 => some (I4, L4))))))))

set_option maxRecDepth 100000 in
set_option maxHeartbeats 4000000 in
theorem tX12_stayNow {x : am_X} (n d : Nat) (hc : am_ok x cX12_stayNow yX12_stayNow 2 none (d + 2) 0 0) {I' : am_I} {L' : am_L} (a1 : Int32) (I : am_I) (L : am_L) (hf : fX12_stayNow n d a1 I L = some (I', L')) : am_J x (fun S => S = (none, KM, RM, I', L')) 0 [some (.ref 0), some (.int a1)] [] KM RM I L 0 0 := by
  unfold fX12_stayNow at hf
  refine j_aload_n hc dX12_stayNow_0 rfl ?_
  refine j_getR (u := 17) hc dX12_stayNow_1 fgM_X12_58_0 rM_0_27 ?_
  refine j_bipush (v := (8 : Int32)) hc dX12_stayNow_4 cb_8 ?_
  refine j_iload_n hc dX12_stayNow_6 rfl ?_
  refine j_iadd hc dX12_stayNow_7 ?_
  refine j_dup2 hc dX12_stayNow_8 rfl rfl ?_
  refine j_iaload (n := 206) hc dX12_stayNow_9 kM_17 hf (fun v1 hf => ?_)
  refine j_iconst (v := (1 : Int32)) hc dX12_stayNow_10 ci_1 ?_
  refine j_isub hc dX12_stayNow_11 ?_
  refine j_iastore (n := 206) hc dX12_stayNow_12 kM_17 hf (fun I2 hf => ?_)
  refine j_aload_n hc dX12_stayNow_13 rfl ?_
  refine j_getR (u := 17) hc dX12_stayNow_14 fgM_X12_58_0 rM_0_27 ?_
  refine j_bipush (v := (16 : Int32)) hc dX12_stayNow_17 cb_16 ?_
  refine j_iload_n hc dX12_stayNow_19 rfl ?_
  refine j_iadd hc dX12_stayNow_20 ?_
  refine j_iconst (v := (1 : Int32)) hc dX12_stayNow_21 ci_1 ?_
  refine j_iastore (n := 206) hc dX12_stayNow_22 kM_17 hf (fun I3 hf => ?_)
  refine j_aload_n hc dX12_stayNow_23 rfl ?_
  refine j_iconst (v := (1 : Int32)) hc dX12_stayNow_24 ci_1 ?_
  refine j_iload_n hc dX12_stayNow_25 rfl ?_
  refine j_iconst (v := (-1 : Int32)) hc dX12_stayNow_26 ci_m1 ?_
  refine j_callVV (t := 0) (As := [.int (1 : Int32), .int a1, .int (-1 : Int32)]) hc dX12_stayNow_27 kw_1854 mX12_note kM_0 clX12 rfl (by omega) (Nat.le_of_ble_eq_true rfl) (Nat.le_of_ble_eq_true rfl) ⟨Nat.le_refl _, Nat.le_refl _⟩ hf (fun I' L' h => qX12_note x.2.1 n d (1 : Int32) a1 (-1 : Int32) I3 L I' L' h) (fun I4 L4 hf => ?_)
  exact j_return hc dX12_stayNow_30 rfl rfl hf

set_option maxRecDepth 100000 in
theorem qX12_stayNow (l : Launch) (n d : Nat) (a1 : Int32) (I : am_I) (L : am_L) (I' : am_I) (L' : am_L) (hf : fX12_stayNow n d a1 I L = some (I', L')) : am_C l yX12_stayNow cX12_stayNow 2 none (d + 2) [.ref 0, .int a1] KM RM I L none I' L' := by
  exact am_intro (plainFor_of_name plX12) (fun _ _ => trivial) (Nat.le_of_ble_eq_true rfl) (fun x hl hc => by subst hl; exact j_sub (tX12_stayNow n d hc _ _ _ hf) (And.intro rfl (And.intro rfl (trivial))))
set_option maxRecDepth 100000 in
def fX12_stay (n d : Nat) (a1 : Int32) (I : am_I) (L : am_L) : Option (Int32 × am_I × am_L) :=
  am_b3 (fX12_canStay n d a1 I L) (fun v1 I1 L1 => if v1 = 0 then
    (some ((-1 : Int32), I1, L1))
    else
    (am_b2 (fX12_keep n d I1 L1) (fun I2 L2 => am_b2 (fX12_stayNow n d a1 I2 L2) (fun I3 L3 => am_ck ((8 : Int32) + a1) 206 (am_lt (I3 17 (((8 : Int32) + a1)).toNatClampNeg) (fun v4 => some (v4, I3, L3)))))))

set_option maxRecDepth 100000 in
set_option maxHeartbeats 4000000 in
theorem tX12_stay {x : am_X} (n d : Nat) (hc : am_ok x cX12_stay yX12_stay 2 (some .int) (d + 13) 0 0) {r : Int32} {I' : am_I} {L' : am_L} (a1 : Int32) (I : am_I) (L : am_L) (hf : fX12_stay n d a1 I L = some (r, I', L')) : am_J x (fun S => S = (some (.int r), KM, RM, I', L')) 0 [some (.ref 0), some (.int a1)] [] KM RM I L 0 0 := by
  unfold fX12_stay at hf
  refine j_aload_n hc dX12_stay_0 rfl ?_
  refine j_iload_n hc dX12_stay_1 rfl ?_
  refine j_callVI (t := 0) (As := [.int a1]) hc dX12_stay_2 kw_1862 mX12_canStay kM_0 clX12 rfl (by omega) (Nat.le_of_ble_eq_true rfl) (Nat.le_of_ble_eq_true rfl) ⟨Nat.le_refl _, Nat.le_refl _⟩ hf (fun v I' L' h => qX12_canStay x.2.1 n d a1 I L v I' L' h) (fun v1 I1 L1 hf => ?_)
  refine j_if_ne (tgt := 10) hc dX12_stay_5 rfl hf (fun hf => ?_) (fun hf => ?_)
  · refine j_aload_n hc dX12_stay_10 rfl ?_
    refine j_callVV (t := 0) (As := []) hc dX12_stay_11 kw_1846 mX12_keep kM_0 clX12 rfl (by omega) (Nat.le_of_ble_eq_true rfl) (Nat.le_of_ble_eq_true rfl) ⟨Nat.le_refl _, Nat.le_refl _⟩ hf (fun I' L' h => qX12_keep x.2.1 n d I1 L1 I' L' h) (fun I2 L2 hf => ?_)
    refine j_aload_n hc dX12_stay_14 rfl ?_
    refine j_iload_n hc dX12_stay_15 rfl ?_
    refine j_callVV (t := 0) (As := [.int a1]) hc dX12_stay_16 kw_1866 mX12_stayNow kM_0 clX12 rfl (by omega) (Nat.le_of_ble_eq_true rfl) (Nat.le_of_ble_eq_true rfl) ⟨Nat.le_refl _, Nat.le_refl _⟩ hf (fun I' L' h => qX12_stayNow x.2.1 n d a1 I2 L2 I' L' h) (fun I3 L3 hf => ?_)
    refine j_aload_n hc dX12_stay_19 rfl ?_
    refine j_getR (u := 17) hc dX12_stay_20 fgM_X12_58_0 rM_0_27 ?_
    refine j_bipush (v := (8 : Int32)) hc dX12_stay_23 cb_8 ?_
    refine j_iload_n hc dX12_stay_25 rfl ?_
    refine j_iadd hc dX12_stay_26 ?_
    refine j_iaload (n := 206) hc dX12_stay_27 kM_17 hf (fun v4 hf => ?_)
    exact j_ireturn hc dX12_stay_28 rfl rfl hf
  · refine j_iconst (v := (-1 : Int32)) hc dX12_stay_8 ci_m1 ?_
    exact j_ireturn hc dX12_stay_9 rfl rfl hf

set_option maxRecDepth 100000 in
theorem qX12_stay (l : Launch) (n d : Nat) (a1 : Int32) (I : am_I) (L : am_L) (r : Int32) (I' : am_I) (L' : am_L) (hf : fX12_stay n d a1 I L = some (r, I', L')) : am_C l yX12_stay cX12_stay 2 (some .int) (d + 13) [.ref 0, .int a1] KM RM I L (some (.int r)) I' L' := by
  exact am_intro (plainFor_of_name plX12) (fun _ _ => trivial) (Nat.le_of_ble_eq_true rfl) (fun x hl hc => by subst hl; exact j_sub (tX12_stay n d hc _ _ _ hf) (And.intro rfl (And.intro rfl (trivial))))
set_option maxRecDepth 100000 in
def fX12_canPress_b63 (n d : Nat) (I : am_I) (L : am_L) : Option (Int32 × am_I × am_L) :=
  some ((1 : Int32), I, L)

set_option maxRecDepth 100000 in
set_option maxHeartbeats 4000000 in
theorem tX12_canPress_b63 {x : am_X} (n d : Nat) (hc : am_ok x cX12_canPress yX12_canPress 3 (some .boolean) (d + 13) 0 0) {r : Int32} {I' : am_I} {L' : am_L} (I : am_I) (L : am_L) (hf : fX12_canPress_b63 n d I L = some (r, I', L')) : am_J x (fun S => S = (some (.int r), KM, RM, I', L')) 63 [none, none, none] [] KM RM I L 0 0 := by
  unfold fX12_canPress_b63 at hf
  refine j_iconst (v := (1 : Int32)) hc dX12_canPress_63 ci_1 ?_
  refine j_goto (tgt := 68) hc dX12_canPress_64 rfl ?_
  exact j_zret hc dX12_canPress_68 rfl rfl (Or.inr rfl) hf

set_option maxRecDepth 100000 in
def fX12_canPress (n d : Nat) (a1 : Int32) (a2 : Int32) (I : am_I) (L : am_L) : Option (Int32 × am_I × am_L) :=
  am_b3 (fX12_canStay n d a1 I L) (fun v1 I1 L1 => if v1 = 0 then
    (some ((0 : Int32), I1, L1))
    else
    (am_b3 (fX12_isMan n d a2 I1 L1) (fun v2 I2 L2 => if v2 = 0 then
      (some ((0 : Int32), I2, L2))
      else
      (if a2 = a1 then
        (some ((0 : Int32), I2, L2))
        else
        (am_b3 (fX12_isHome n d a2 I2 L2) (fun v3 I3 L3 => if v3 = 0 then
          (am_ck ((0 : Int32) + a2) 206 (am_lt (I3 17 (((0 : Int32) + a2)).toNatClampNeg) (fun v4 => if v4 ≤ 0 then
            (some ((0 : Int32), I3, L3))
            else
            (am_b3 (fX12_side n d a1 I3 L3) (fun v5 I5 L5 => am_b3 (fX12_side n d a2 I5 L5) (fun v6 I6 L6 => if v5 = v6 then
              (am_ck (1 : Int32) 2 (am_lt (I6 16 ((1 : Int32)).toNatClampNeg) (fun v7 => if v7 = (1 : Int32) then
                (fX12_canPress_b63 n d I6 L6)
                else
                (some ((0 : Int32), I6, L6)))))
              else
              (fX12_canPress_b63 n d I6 L6)))))))
          else
          (some ((0 : Int32), I3, L3))))))))

set_option maxRecDepth 100000 in
set_option maxHeartbeats 4000000 in
theorem tX12_canPress {x : am_X} (n d : Nat) (hc : am_ok x cX12_canPress yX12_canPress 3 (some .boolean) (d + 13) 0 0) {r : Int32} {I' : am_I} {L' : am_L} (a1 : Int32) (a2 : Int32) (I : am_I) (L : am_L) (hf : fX12_canPress n d a1 a2 I L = some (r, I', L')) : am_J x (fun S => S = (some (.int r), KM, RM, I', L')) 0 [some (.ref 0), some (.int a1), some (.int a2)] [] KM RM I L 0 0 := by
  unfold fX12_canPress at hf
  refine j_aload_n hc dX12_canPress_0 rfl ?_
  refine j_iload_n hc dX12_canPress_1 rfl ?_
  refine j_callVI (t := 0) (As := [.int a1]) hc dX12_canPress_2 kw_1862 mX12_canStay kM_0 clX12 rfl (by omega) (Nat.le_of_ble_eq_true rfl) (Nat.le_of_ble_eq_true rfl) ⟨Nat.le_refl _, Nat.le_refl _⟩ hf (fun v I' L' h => qX12_canStay x.2.1 n d a1 I L v I' L' h) (fun v1 I1 L1 hf => ?_)
  refine j_if_eq (tgt := 67) hc dX12_canPress_5 rfl hf (fun hf => ?_) (fun hf => ?_)
  · refine j_iconst (v := (0 : Int32)) hc dX12_canPress_67 ci_0 ?_
    exact j_zret hc dX12_canPress_68 rfl rfl (Or.inl rfl) hf
  · refine j_aload_n hc dX12_canPress_8 rfl ?_
    refine j_iload_n hc dX12_canPress_9 rfl ?_
    refine j_callVI (t := 0) (As := [.int a2]) hc dX12_canPress_10 kw_1768 mX12_isMan kM_0 clX12 rfl (by omega) (Nat.le_of_ble_eq_true rfl) (Nat.le_of_ble_eq_true rfl) ⟨Nat.le_refl _, Nat.le_refl _⟩ hf (fun v I' L' h => qX12_isMan x.2.1 n d a2 I1 L1 v I' L' h) (fun v2 I2 L2 hf => ?_)
    refine j_if_eq (tgt := 67) hc dX12_canPress_13 rfl hf (fun hf => ?_) (fun hf => ?_)
    · refine j_iconst (v := (0 : Int32)) hc dX12_canPress_67 ci_0 ?_
      exact j_zret hc dX12_canPress_68 rfl rfl (Or.inl rfl) hf
    · refine j_iload_n hc dX12_canPress_16 rfl ?_
      refine j_iload_n hc dX12_canPress_17 rfl ?_
      refine j_icmp_eq (tgt := 67) hc dX12_canPress_18 rfl hf (fun hf => ?_) (fun hf => ?_)
      · refine j_iconst (v := (0 : Int32)) hc dX12_canPress_67 ci_0 ?_
        exact j_zret hc dX12_canPress_68 rfl rfl (Or.inl rfl) hf
      · refine j_aload_n hc dX12_canPress_21 rfl ?_
        refine j_iload_n hc dX12_canPress_22 rfl ?_
        refine j_callVI (t := 0) (As := [.int a2]) hc dX12_canPress_23 kw_1772 mX12_isHome kM_0 clX12 rfl (by omega) (Nat.le_of_ble_eq_true rfl) (Nat.le_of_ble_eq_true rfl) ⟨Nat.le_refl _, Nat.le_refl _⟩ hf (fun v I' L' h => qX12_isHome x.2.1 n d a2 I2 L2 v I' L' h) (fun v3 I3 L3 hf => ?_)
        refine j_if_ne (tgt := 67) hc dX12_canPress_26 rfl hf (fun hf => ?_) (fun hf => ?_)
        · refine j_iconst (v := (0 : Int32)) hc dX12_canPress_67 ci_0 ?_
          exact j_zret hc dX12_canPress_68 rfl rfl (Or.inl rfl) hf
        · refine j_aload_n hc dX12_canPress_29 rfl ?_
          refine j_getR (u := 17) hc dX12_canPress_30 fgM_X12_58_0 rM_0_27 ?_
          refine j_iconst (v := (0 : Int32)) hc dX12_canPress_33 ci_0 ?_
          refine j_iload_n hc dX12_canPress_34 rfl ?_
          refine j_iadd hc dX12_canPress_35 ?_
          refine j_iaload (n := 206) hc dX12_canPress_36 kM_17 hf (fun v4 hf => ?_)
          refine j_if_le (tgt := 67) hc dX12_canPress_37 rfl hf (fun hf => ?_) (fun hf => ?_)
          · refine j_iconst (v := (0 : Int32)) hc dX12_canPress_67 ci_0 ?_
            exact j_zret hc dX12_canPress_68 rfl rfl (Or.inl rfl) hf
          · refine j_aload_n hc dX12_canPress_40 rfl ?_
            refine j_iload_n hc dX12_canPress_41 rfl ?_
            refine j_callVI (t := 0) (As := [.int a1]) hc dX12_canPress_42 kw_1780 mX12_side kM_0 clX12 rfl (by omega) (Nat.le_of_ble_eq_true rfl) (Nat.le_of_ble_eq_true rfl) ⟨Nat.le_refl _, Nat.le_refl _⟩ hf (fun v I' L' h => qX12_side x.2.1 n d a1 I3 L3 v I' L' h) (fun v5 I5 L5 hf => ?_)
            refine j_aload_n hc dX12_canPress_45 rfl ?_
            refine j_iload_n hc dX12_canPress_46 rfl ?_
            refine j_callVI (t := 0) (As := [.int a2]) hc dX12_canPress_47 kw_1780 mX12_side kM_0 clX12 rfl (by omega) (Nat.le_of_ble_eq_true rfl) (Nat.le_of_ble_eq_true rfl) ⟨Nat.le_refl _, Nat.le_refl _⟩ hf (fun v I' L' h => qX12_side x.2.1 n d a2 I5 L5 v I' L' h) (fun v6 I6 L6 hf => ?_)
            refine j_icmp_ne (tgt := 63) hc dX12_canPress_50 rfl hf (fun hf => ?_) (fun hf => ?_)
            · exact j_sub (tX12_canPress_b63 n d hc _ _ hf) (trivial)
            · refine j_aload_n hc dX12_canPress_53 rfl ?_
              refine j_getR (u := 16) hc dX12_canPress_54 fgM_X12_55_0 rM_0_24 ?_
              refine j_iconst (v := (1 : Int32)) hc dX12_canPress_57 ci_1 ?_
              refine j_iaload (n := 2) hc dX12_canPress_58 kM_16 hf (fun v7 hf => ?_)
              refine j_iconst (v := (1 : Int32)) hc dX12_canPress_59 ci_1 ?_
              refine j_icmp_ne (tgt := 67) hc dX12_canPress_60 rfl hf (fun hf => ?_) (fun hf => ?_)
              · refine j_iconst (v := (0 : Int32)) hc dX12_canPress_67 ci_0 ?_
                exact j_zret hc dX12_canPress_68 rfl rfl (Or.inl rfl) hf
              · exact j_sub (tX12_canPress_b63 n d hc _ _ hf) (trivial)

set_option maxRecDepth 100000 in
theorem qX12_canPress (l : Launch) (n d : Nat) (a1 : Int32) (a2 : Int32) (I : am_I) (L : am_L) (r : Int32) (I' : am_I) (L' : am_L) (hf : fX12_canPress n d a1 a2 I L = some (r, I', L')) : am_C l yX12_canPress cX12_canPress 3 (some .boolean) (d + 13) [.ref 0, .int a1, .int a2] KM RM I L (some (.int r)) I' L' := by
  exact am_intro (plainFor_of_name plX12) (fun _ _ => trivial) (Nat.le_of_ble_eq_true rfl) (fun x hl hc => by subst hl; exact j_sub (tX12_canPress n d hc _ _ _ _ hf) (And.intro rfl (And.intro rfl (And.intro rfl (trivial)))))
set_option maxRecDepth 100000 in
def fX12_pressNow (n d : Nat) (a1 : Int32) (a2 : Int32) (I : am_I) (L : am_L) : Option (am_I × am_L) :=
  am_ck ((8 : Int32) + a1) 206 (am_lt (I 17 (((8 : Int32) + a1)).toNatClampNeg) (fun v1 => am_ck ((8 : Int32) + a1) 206 (am_lt (am_up I 17 (((8 : Int32) + a1)).toNatClampNeg (v1 - (1 : Int32))) (fun I2 => am_ck ((16 : Int32) + a1) 206 (am_lt (am_up I2 17 (((16 : Int32) + a1)).toNatClampNeg (1 : Int32)) (fun I3 => am_ck ((0 : Int32) + a2) 206 (am_lt (I3 17 (((0 : Int32) + a2)).toNatClampNeg) (fun v4 => am_ck (((6 : Int32) * a1) + (2 : Int32)) 48 (am_lt (I3 14 ((((6 : Int32) * a1) + (2 : Int32))).toNatClampNeg) (fun v5 => am_b3 (fJ9_max_7cf53 n d (0 : Int32) (v4 - v5) I3 L) (fun v6 I6 L6 => am_b2 (fX12_comes n d a2 v6 I6 L6) (fun I7 L7 => am_b2 (fX12_note n d (2 : Int32) a1 a2 I7 L7) (fun I8 L8 => some (I8, L8))))))))))))))

set_option maxRecDepth 100000 in
set_option maxHeartbeats 4000000 in
theorem tX12_pressNow {x : am_X} (n d : Nat) (hc : am_ok x cX12_pressNow yX12_pressNow 3 none (d + 3) 0 0) {I' : am_I} {L' : am_L} (a1 : Int32) (a2 : Int32) (I : am_I) (L : am_L) (hf : fX12_pressNow n d a1 a2 I L = some (I', L')) : am_J x (fun S => S = (none, KM, RM, I', L')) 0 [some (.ref 0), some (.int a1), some (.int a2)] [] KM RM I L 0 0 := by
  unfold fX12_pressNow at hf
  refine j_aload_n hc dX12_pressNow_0 rfl ?_
  refine j_getR (u := 17) hc dX12_pressNow_1 fgM_X12_58_0 rM_0_27 ?_
  refine j_bipush (v := (8 : Int32)) hc dX12_pressNow_4 cb_8 ?_
  refine j_iload_n hc dX12_pressNow_6 rfl ?_
  refine j_iadd hc dX12_pressNow_7 ?_
  refine j_dup2 hc dX12_pressNow_8 rfl rfl ?_
  refine j_iaload (n := 206) hc dX12_pressNow_9 kM_17 hf (fun v1 hf => ?_)
  refine j_iconst (v := (1 : Int32)) hc dX12_pressNow_10 ci_1 ?_
  refine j_isub hc dX12_pressNow_11 ?_
  refine j_iastore (n := 206) hc dX12_pressNow_12 kM_17 hf (fun I2 hf => ?_)
  refine j_aload_n hc dX12_pressNow_13 rfl ?_
  refine j_getR (u := 17) hc dX12_pressNow_14 fgM_X12_58_0 rM_0_27 ?_
  refine j_bipush (v := (16 : Int32)) hc dX12_pressNow_17 cb_16 ?_
  refine j_iload_n hc dX12_pressNow_19 rfl ?_
  refine j_iadd hc dX12_pressNow_20 ?_
  refine j_iconst (v := (1 : Int32)) hc dX12_pressNow_21 ci_1 ?_
  refine j_iastore (n := 206) hc dX12_pressNow_22 kM_17 hf (fun I3 hf => ?_)
  refine j_aload_n hc dX12_pressNow_23 rfl ?_
  refine j_iload_n hc dX12_pressNow_24 rfl ?_
  refine j_iconst (v := (0 : Int32)) hc dX12_pressNow_25 ci_0 ?_
  refine j_aload_n hc dX12_pressNow_26 rfl ?_
  refine j_getR (u := 17) hc dX12_pressNow_27 fgM_X12_58_0 rM_0_27 ?_
  refine j_iconst (v := (0 : Int32)) hc dX12_pressNow_30 ci_0 ?_
  refine j_iload_n hc dX12_pressNow_31 rfl ?_
  refine j_iadd hc dX12_pressNow_32 ?_
  refine j_iaload (n := 206) hc dX12_pressNow_33 kM_17 hf (fun v4 hf => ?_)
  refine j_aload_n hc dX12_pressNow_34 rfl ?_
  refine j_getR (u := 14) hc dX12_pressNow_35 fgM_X12_49_0 rM_0_22 ?_
  refine j_bipush (v := (6 : Int32)) hc dX12_pressNow_38 cb_6 ?_
  refine j_iload_n hc dX12_pressNow_40 rfl ?_
  refine j_imul hc dX12_pressNow_41 ?_
  refine j_iconst (v := (2 : Int32)) hc dX12_pressNow_42 ci_2 ?_
  refine j_iadd hc dX12_pressNow_43 ?_
  refine j_iaload (n := 48) hc dX12_pressNow_44 kM_14 hf (fun v5 hf => ?_)
  refine j_isub hc dX12_pressNow_45 ?_
  refine j_callSI (As := [.int (0 : Int32), .int (v4 - v5)]) hc dX12_pressNow_46 kw_1882 mJ9_max_7cf53  rfl (by omega) (Nat.le_of_ble_eq_true rfl) (Nat.le_of_ble_eq_true rfl) ⟨Nat.le_refl _, Nat.le_refl _⟩ hf (fun v I' L' h => qJ9_max_7cf53 x.2.1 n d (0 : Int32) (v4 - v5) I3 L v I' L' h) (fun v6 I6 L6 hf => ?_)
  refine j_callVV (t := 0) (As := [.int a2, .int v6]) hc dX12_pressNow_49 kw_1756 mX12_comes kM_0 clX12 rfl (by omega) (Nat.le_of_ble_eq_true rfl) (Nat.le_of_ble_eq_true rfl) ⟨Nat.le_refl _, Nat.le_refl _⟩ hf (fun I' L' h => qX12_comes x.2.1 n d a2 v6 I6 L6 I' L' h) (fun I7 L7 hf => ?_)
  refine j_aload_n hc dX12_pressNow_52 rfl ?_
  refine j_iconst (v := (2 : Int32)) hc dX12_pressNow_53 ci_2 ?_
  refine j_iload_n hc dX12_pressNow_54 rfl ?_
  refine j_iload_n hc dX12_pressNow_55 rfl ?_
  refine j_callVV (t := 0) (As := [.int (2 : Int32), .int a1, .int a2]) hc dX12_pressNow_56 kw_1854 mX12_note kM_0 clX12 rfl (by omega) (Nat.le_of_ble_eq_true rfl) (Nat.le_of_ble_eq_true rfl) ⟨Nat.le_refl _, Nat.le_refl _⟩ hf (fun I' L' h => qX12_note x.2.1 n d (2 : Int32) a1 a2 I7 L7 I' L' h) (fun I8 L8 hf => ?_)
  exact j_return hc dX12_pressNow_59 rfl rfl hf

set_option maxRecDepth 100000 in
theorem qX12_pressNow (l : Launch) (n d : Nat) (a1 : Int32) (a2 : Int32) (I : am_I) (L : am_L) (I' : am_I) (L' : am_L) (hf : fX12_pressNow n d a1 a2 I L = some (I', L')) : am_C l yX12_pressNow cX12_pressNow 3 none (d + 3) [.ref 0, .int a1, .int a2] KM RM I L none I' L' := by
  exact am_intro (plainFor_of_name plX12) (fun _ _ => trivial) (Nat.le_of_ble_eq_true rfl) (fun x hl hc => by subst hl; exact j_sub (tX12_pressNow n d hc _ _ _ _ hf) (And.intro rfl (And.intro rfl (And.intro rfl (trivial)))))
set_option maxRecDepth 100000 in
def fX12_press (n d : Nat) (a1 : Int32) (a2 : Int32) (I : am_I) (L : am_L) : Option (Int32 × am_I × am_L) :=
  am_b3 (fX12_canPress n d a1 a2 I L) (fun v1 I1 L1 => if v1 = 0 then
    (some ((-1 : Int32), I1, L1))
    else
    (am_b2 (fX12_keep n d I1 L1) (fun I2 L2 => am_b2 (fX12_pressNow n d a1 a2 I2 L2) (fun I3 L3 => am_ck ((0 : Int32) + a2) 206 (am_lt (I3 17 (((0 : Int32) + a2)).toNatClampNeg) (fun v4 => some (v4, I3, L3)))))))

set_option maxRecDepth 100000 in
set_option maxHeartbeats 4000000 in
theorem tX12_press {x : am_X} (n d : Nat) (hc : am_ok x cX12_press yX12_press 3 (some .int) (d + 14) 0 0) {r : Int32} {I' : am_I} {L' : am_L} (a1 : Int32) (a2 : Int32) (I : am_I) (L : am_L) (hf : fX12_press n d a1 a2 I L = some (r, I', L')) : am_J x (fun S => S = (some (.int r), KM, RM, I', L')) 0 [some (.ref 0), some (.int a1), some (.int a2)] [] KM RM I L 0 0 := by
  unfold fX12_press at hf
  refine j_aload_n hc dX12_press_0 rfl ?_
  refine j_iload_n hc dX12_press_1 rfl ?_
  refine j_iload_n hc dX12_press_2 rfl ?_
  refine j_callVI (t := 0) (As := [.int a1, .int a2]) hc dX12_press_3 kw_1874 mX12_canPress kM_0 clX12 rfl (by omega) (Nat.le_of_ble_eq_true rfl) (Nat.le_of_ble_eq_true rfl) ⟨Nat.le_refl _, Nat.le_refl _⟩ hf (fun v I' L' h => qX12_canPress x.2.1 n d a1 a2 I L v I' L' h) (fun v1 I1 L1 hf => ?_)
  refine j_if_ne (tgt := 11) hc dX12_press_6 rfl hf (fun hf => ?_) (fun hf => ?_)
  · refine j_aload_n hc dX12_press_11 rfl ?_
    refine j_callVV (t := 0) (As := []) hc dX12_press_12 kw_1846 mX12_keep kM_0 clX12 rfl (by omega) (Nat.le_of_ble_eq_true rfl) (Nat.le_of_ble_eq_true rfl) ⟨Nat.le_refl _, Nat.le_refl _⟩ hf (fun I' L' h => qX12_keep x.2.1 n d I1 L1 I' L' h) (fun I2 L2 hf => ?_)
    refine j_aload_n hc dX12_press_15 rfl ?_
    refine j_iload_n hc dX12_press_16 rfl ?_
    refine j_iload_n hc dX12_press_17 rfl ?_
    refine j_callVV (t := 0) (As := [.int a1, .int a2]) hc dX12_press_18 kw_1878 mX12_pressNow kM_0 clX12 rfl (by omega) (Nat.le_of_ble_eq_true rfl) (Nat.le_of_ble_eq_true rfl) ⟨Nat.le_refl _, Nat.le_refl _⟩ hf (fun I' L' h => qX12_pressNow x.2.1 n d a1 a2 I2 L2 I' L' h) (fun I3 L3 hf => ?_)
    refine j_aload_n hc dX12_press_21 rfl ?_
    refine j_getR (u := 17) hc dX12_press_22 fgM_X12_58_0 rM_0_27 ?_
    refine j_iconst (v := (0 : Int32)) hc dX12_press_25 ci_0 ?_
    refine j_iload_n hc dX12_press_26 rfl ?_
    refine j_iadd hc dX12_press_27 ?_
    refine j_iaload (n := 206) hc dX12_press_28 kM_17 hf (fun v4 hf => ?_)
    exact j_ireturn hc dX12_press_29 rfl rfl hf
  · refine j_iconst (v := (-1 : Int32)) hc dX12_press_9 ci_m1 ?_
    exact j_ireturn hc dX12_press_10 rfl rfl hf

set_option maxRecDepth 100000 in
theorem qX12_press (l : Launch) (n d : Nat) (a1 : Int32) (a2 : Int32) (I : am_I) (L : am_L) (r : Int32) (I' : am_I) (L' : am_L) (hf : fX12_press n d a1 a2 I L = some (r, I', L')) : am_C l yX12_press cX12_press 3 (some .int) (d + 14) [.ref 0, .int a1, .int a2] KM RM I L (some (.int r)) I' L' := by
  exact am_intro (plainFor_of_name plX12) (fun _ _ => trivial) (Nat.le_of_ble_eq_true rfl) (fun x hl hc => by subst hl; exact j_sub (tX12_press n d hc _ _ _ _ hf) (And.intro rfl (And.intro rfl (And.intro rfl (trivial)))))
set_option maxRecDepth 100000 in
def fX12_endDay_b13w (n d : Nat) (k13 : Int32 → am_I → am_L → Option (am_I × am_L)) (a1 : Int32) (I : am_I) (L : am_L) : Option (am_I × am_L) :=
  if (I 0 25) ≤ a1 then
    (am_b2 (fX12_note n d (3 : Int32) (-1 : Int32) (-1 : Int32) I L) (fun I1 L1 => some (I1, L1)))
    else
    (am_ck ((16 : Int32) + a1) 206 (am_lt (am_up I 17 (((16 : Int32) + a1)).toNatClampNeg (0 : Int32)) (fun I2 => am_lt (a1 + (1 : Int32)) (fun v3 => k13 v3 I2 L))))

set_option maxRecDepth 100000 in
set_option maxHeartbeats 4000000 in
theorem tX12_endDay_b13w {x : am_X} (n d : Nat) (hc : am_ok x cX12_endDay yX12_endDay 2 none (d + 2) 0 0) {I' : am_I} {L' : am_L} (k13 : Int32 → am_I → am_L → Option (am_I × am_L)) (hk13 : ∀ (a1 : Int32) (I : am_I) (L : am_L), k13 a1 I L = some (I', L') → am_J x (fun S => S = (none, KM, RM, I', L')) 13 [some (.ref 0), some (.int a1)] [] KM RM I L 0 0) (a1 : Int32) (I : am_I) (L : am_L) (hf : fX12_endDay_b13w n d k13 a1 I L = some (I', L')) : am_J x (fun S => S = (none, KM, RM, I', L')) 13 [some (.ref 0), some (.int a1)] [] KM RM I L 0 0 := by
  unfold fX12_endDay_b13w at hf
  refine j_iload_n hc dX12_endDay_13 rfl ?_
  refine j_aload_n hc dX12_endDay_14 rfl ?_
  refine j_getI hc dX12_endDay_15 fgM_X12_250_0 ?_
  refine j_icmp_ge (tgt := 37) hc dX12_endDay_18 rfl hf (fun hf => ?_) (fun hf => ?_)
  · refine j_aload_n hc dX12_endDay_37 rfl ?_
    refine j_iconst (v := (3 : Int32)) hc dX12_endDay_38 ci_3 ?_
    refine j_iconst (v := (-1 : Int32)) hc dX12_endDay_39 ci_m1 ?_
    refine j_iconst (v := (-1 : Int32)) hc dX12_endDay_40 ci_m1 ?_
    refine j_callVV (t := 0) (As := [.int (3 : Int32), .int (-1 : Int32), .int (-1 : Int32)]) hc dX12_endDay_41 kw_1854 mX12_note kM_0 clX12 rfl (by omega) (Nat.le_of_ble_eq_true rfl) (Nat.le_of_ble_eq_true rfl) ⟨Nat.le_refl _, Nat.le_refl _⟩ hf (fun I' L' h => qX12_note x.2.1 n d (3 : Int32) (-1 : Int32) (-1 : Int32) I L I' L' h) (fun I1 L1 hf => ?_)
    exact j_return hc dX12_endDay_44 rfl rfl hf
  · refine j_aload_n hc dX12_endDay_21 rfl ?_
    refine j_getR (u := 17) hc dX12_endDay_22 fgM_X12_58_0 rM_0_27 ?_
    refine j_bipush (v := (16 : Int32)) hc dX12_endDay_25 cb_16 ?_
    refine j_iload_n hc dX12_endDay_27 rfl ?_
    refine j_iadd hc dX12_endDay_28 ?_
    refine j_iconst (v := (0 : Int32)) hc dX12_endDay_29 ci_0 ?_
    refine j_iastore (n := 206) hc dX12_endDay_30 kM_17 hf (fun I2 hf => ?_)
    refine j_iinc (w := (1 : Int32)) hc dX12_endDay_31 rfl ci_1 (Nat.le_of_ble_eq_true rfl) hf (fun v3 hf => ?_)
    refine j_goto (tgt := 13) hc dX12_endDay_34 rfl ?_
    exact j_sub (hk13 _ _ _ hf) (And.intro rfl (And.intro rfl (trivial)))

def fX12_endDay_b13 (n d : Nat) : Nat → Int32 → am_I → am_L → Option (am_I × am_L)
  | 0 => fun _ _ _ => none
  | m + 1 => fX12_endDay_b13w n d  (fX12_endDay_b13 n d m)

set_option maxRecDepth 100000 in
theorem tX12_endDay_b13 {x : am_X} (n d : Nat) (hc : am_ok x cX12_endDay yX12_endDay 2 none (d + 2) 0 0) {I' : am_I} {L' : am_L} (m : Nat) : ∀ (a1 : Int32) (I : am_I) (L : am_L) (hf : fX12_endDay_b13 n d m a1 I L = some (I', L')), am_J x (fun S => S = (none, KM, RM, I', L')) 13 [some (.ref 0), some (.int a1)] [] KM RM I L 0 0 := by
  induction m with
  | zero => intro a1 I L hf; exact (Option.some_ne_none _ hf.symm).elim
  | succ m ih => intro a1 I L hf; exact tX12_endDay_b13w n d hc (fX12_endDay_b13 n d m) ih a1 I L hf

set_option maxRecDepth 100000 in
def fX12_endDay (n d : Nat) (I : am_I) (L : am_L) : Option (am_I × am_L) :=
  am_ck (24 : Int32) 206 (am_lt (I 17 ((24 : Int32)).toNatClampNeg) (fun v1 => am_ck (24 : Int32) 206 (am_lt (am_up I 17 ((24 : Int32)).toNatClampNeg (v1 + (1 : Int32))) (fun I2 => am_lt (0 : Int32) (fun v3 => fX12_endDay_b13 n d n v3 I2 L)))))

set_option maxRecDepth 100000 in
set_option maxHeartbeats 4000000 in
theorem tX12_endDay {x : am_X} (n d : Nat) (hc : am_ok x cX12_endDay yX12_endDay 2 none (d + 2) 0 0) {I' : am_I} {L' : am_L} (I : am_I) (L : am_L) (hf : fX12_endDay n d I L = some (I', L')) : am_J x (fun S => S = (none, KM, RM, I', L')) 0 [some (.ref 0), none] [] KM RM I L 0 0 := by
  unfold fX12_endDay at hf
  refine j_aload_n hc dX12_endDay_0 rfl ?_
  refine j_getR (u := 17) hc dX12_endDay_1 fgM_X12_58_0 rM_0_27 ?_
  refine j_bipush (v := (24 : Int32)) hc dX12_endDay_4 cb_24 ?_
  refine j_dup2 hc dX12_endDay_6 rfl rfl ?_
  refine j_iaload (n := 206) hc dX12_endDay_7 kM_17 hf (fun v1 hf => ?_)
  refine j_iconst (v := (1 : Int32)) hc dX12_endDay_8 ci_1 ?_
  refine j_iadd hc dX12_endDay_9 ?_
  refine j_iastore (n := 206) hc dX12_endDay_10 kM_17 hf (fun I2 hf => ?_)
  refine j_iconst (v := (0 : Int32)) hc dX12_endDay_11 ci_0 ?_
  refine j_istore_n hc dX12_endDay_12 (Nat.le_of_ble_eq_true rfl) hf (fun v3 hf => ?_)
  exact j_sub (tX12_endDay_b13 n d hc n _ _ _ hf) (And.intro rfl (And.intro rfl (trivial)))

set_option maxRecDepth 100000 in
theorem qX12_endDay (l : Launch) (n d : Nat) (I : am_I) (L : am_L) (I' : am_I) (L' : am_L) (hf : fX12_endDay n d I L = some (I', L')) : am_C l yX12_endDay cX12_endDay 2 none (d + 2) [.ref 0] KM RM I L none I' L' := by
  exact am_intro (plainFor_of_name plX12) (fun _ _ => trivial) (Nat.le_of_ble_eq_true rfl) (fun x hl hc => by subst hl; exact j_sub (tX12_endDay n d hc  _ _ hf) (And.intro rfl (trivial)))
set_option maxRecDepth 100000 in
def fX12_evening_b59 (n d : Nat) (k28 : Int32 → am_I → am_L → Option (Int32 × am_I × am_L)) (a1 : Int32) (I : am_I) (L : am_L) : Option (Int32 × am_I × am_L) :=
  am_lt (a1 + (1 : Int32)) (fun v1 => k28 v1 I L)

set_option maxRecDepth 100000 in
set_option maxHeartbeats 4000000 in
theorem tX12_evening_b59 {x : am_X} (n d : Nat) (hc : am_ok x cX12_evening yX12_evening 2 (some .int) (d + 13) 0 0) {r : Int32} {I' : am_I} {L' : am_L} (k28 : Int32 → am_I → am_L → Option (Int32 × am_I × am_L)) (hk28 : ∀ (a1 : Int32) (I : am_I) (L : am_L), k28 a1 I L = some (r, I', L') → am_J x (fun S => S = (some (.int r), KM, RM, I', L')) 28 [some (.ref 0), some (.int a1)] [] KM RM I L 0 0) (a1 : Int32) (I : am_I) (L : am_L) (hf : fX12_evening_b59 n d k28 a1 I L = some (r, I', L')) : am_J x (fun S => S = (some (.int r), KM, RM, I', L')) 59 [some (.ref 0), some (.int a1)] [] KM RM I L 0 0 := by
  unfold fX12_evening_b59 at hf
  refine j_iinc (w := (1 : Int32)) hc dX12_evening_59 rfl ci_1 (Nat.le_of_ble_eq_true rfl) hf (fun v1 hf => ?_)
  refine j_goto (tgt := 28) hc dX12_evening_62 rfl ?_
  exact j_sub (hk28 _ _ _ hf) (And.intro rfl (And.intro rfl (trivial)))

set_option maxRecDepth 100000 in
def fX12_evening_b28w (n d : Nat) (k28 : Int32 → am_I → am_L → Option (Int32 × am_I × am_L)) (a1 : Int32) (I : am_I) (L : am_L) : Option (Int32 × am_I × am_L) :=
  if (I 0 25) ≤ a1 then
    (am_b2 (fX12_endDay n d I L) (fun I1 L1 => am_ck (24 : Int32) 206 (am_lt (I1 17 ((24 : Int32)).toNatClampNeg) (fun v2 => some (v2, I1, L1)))))
    else
    (am_b3 (fX12_canGo n d a1 I L) (fun v3 I3 L3 => if v3 = 0 then
      (fX12_evening_b59 n d k28 a1 I3 L3)
      else
      (am_ck ((0 : Int32) + a1) 206 (am_lt (I3 17 (((0 : Int32) + a1)).toNatClampNeg) (fun v4 => am_b2 (fX12_comes n d a1 (v4 - (1 : Int32)) I3 L3) (fun I5 L5 => fX12_evening_b59 n d k28 a1 I5 L5))))))

set_option maxRecDepth 100000 in
set_option maxHeartbeats 4000000 in
theorem tX12_evening_b28w {x : am_X} (n d : Nat) (hc : am_ok x cX12_evening yX12_evening 2 (some .int) (d + 13) 0 0) {r : Int32} {I' : am_I} {L' : am_L} (k28 : Int32 → am_I → am_L → Option (Int32 × am_I × am_L)) (hk28 : ∀ (a1 : Int32) (I : am_I) (L : am_L), k28 a1 I L = some (r, I', L') → am_J x (fun S => S = (some (.int r), KM, RM, I', L')) 28 [some (.ref 0), some (.int a1)] [] KM RM I L 0 0) (a1 : Int32) (I : am_I) (L : am_L) (hf : fX12_evening_b28w n d k28 a1 I L = some (r, I', L')) : am_J x (fun S => S = (some (.int r), KM, RM, I', L')) 28 [some (.ref 0), some (.int a1)] [] KM RM I L 0 0 := by
  unfold fX12_evening_b28w at hf
  refine j_iload_n hc dX12_evening_28 rfl ?_
  refine j_aload_n hc dX12_evening_29 rfl ?_
  refine j_getI hc dX12_evening_30 fgM_X12_250_0 ?_
  refine j_icmp_ge (tgt := 65) hc dX12_evening_33 rfl hf (fun hf => ?_) (fun hf => ?_)
  · refine j_aload_n hc dX12_evening_65 rfl ?_
    refine j_callVV (t := 0) (As := []) hc dX12_evening_66 kw_1887 mX12_endDay kM_0 clX12 rfl (by omega) (Nat.le_of_ble_eq_true rfl) (Nat.le_of_ble_eq_true rfl) ⟨Nat.le_refl _, Nat.le_refl _⟩ hf (fun I' L' h => qX12_endDay x.2.1 n d I L I' L' h) (fun I1 L1 hf => ?_)
    refine j_aload_n hc dX12_evening_69 rfl ?_
    refine j_getR (u := 17) hc dX12_evening_70 fgM_X12_58_0 rM_0_27 ?_
    refine j_bipush (v := (24 : Int32)) hc dX12_evening_73 cb_24 ?_
    refine j_iaload (n := 206) hc dX12_evening_75 kM_17 hf (fun v2 hf => ?_)
    exact j_ireturn hc dX12_evening_76 rfl rfl hf
  · refine j_aload_n hc dX12_evening_36 rfl ?_
    refine j_iload_n hc dX12_evening_37 rfl ?_
    refine j_callVI (t := 0) (As := [.int a1]) hc dX12_evening_38 kw_1834 mX12_canGo kM_0 clX12 rfl (by omega) (Nat.le_of_ble_eq_true rfl) (Nat.le_of_ble_eq_true rfl) ⟨Nat.le_refl _, Nat.le_refl _⟩ hf (fun v I' L' h => qX12_canGo x.2.1 n d a1 I L v I' L' h) (fun v3 I3 L3 hf => ?_)
    refine j_if_eq (tgt := 59) hc dX12_evening_41 rfl hf (fun hf => ?_) (fun hf => ?_)
    · exact j_sub (tX12_evening_b59 n d hc k28 hk28 _ _ _ hf) (And.intro rfl (And.intro rfl (trivial)))
    · refine j_aload_n hc dX12_evening_44 rfl ?_
      refine j_iload_n hc dX12_evening_45 rfl ?_
      refine j_aload_n hc dX12_evening_46 rfl ?_
      refine j_getR (u := 17) hc dX12_evening_47 fgM_X12_58_0 rM_0_27 ?_
      refine j_iconst (v := (0 : Int32)) hc dX12_evening_50 ci_0 ?_
      refine j_iload_n hc dX12_evening_51 rfl ?_
      refine j_iadd hc dX12_evening_52 ?_
      refine j_iaload (n := 206) hc dX12_evening_53 kM_17 hf (fun v4 hf => ?_)
      refine j_iconst (v := (1 : Int32)) hc dX12_evening_54 ci_1 ?_
      refine j_isub hc dX12_evening_55 ?_
      refine j_callVV (t := 0) (As := [.int a1, .int (v4 - (1 : Int32))]) hc dX12_evening_56 kw_1756 mX12_comes kM_0 clX12 rfl (by omega) (Nat.le_of_ble_eq_true rfl) (Nat.le_of_ble_eq_true rfl) ⟨Nat.le_refl _, Nat.le_refl _⟩ hf (fun I' L' h => qX12_comes x.2.1 n d a1 (v4 - (1 : Int32)) I3 L3 I' L' h) (fun I5 L5 hf => ?_)
      exact j_sub (tX12_evening_b59 n d hc k28 hk28 _ _ _ hf) (And.intro rfl (And.intro rfl (trivial)))

def fX12_evening_b28 (n d : Nat) : Nat → Int32 → am_I → am_L → Option (Int32 × am_I × am_L)
  | 0 => fun _ _ _ => none
  | m + 1 => fX12_evening_b28w n d  (fX12_evening_b28 n d m)

set_option maxRecDepth 100000 in
theorem tX12_evening_b28 {x : am_X} (n d : Nat) (hc : am_ok x cX12_evening yX12_evening 2 (some .int) (d + 13) 0 0) {r : Int32} {I' : am_I} {L' : am_L} (m : Nat) : ∀ (a1 : Int32) (I : am_I) (L : am_L) (hf : fX12_evening_b28 n d m a1 I L = some (r, I', L')), am_J x (fun S => S = (some (.int r), KM, RM, I', L')) 28 [some (.ref 0), some (.int a1)] [] KM RM I L 0 0 := by
  induction m with
  | zero => intro a1 I L hf; exact (Option.some_ne_none _ hf.symm).elim
  | succ m ih => intro a1 I L hf; exact tX12_evening_b28w n d hc (fX12_evening_b28 n d m) ih a1 I L hf

set_option maxRecDepth 100000 in
def fX12_evening (n d : Nat) (I : am_I) (L : am_L) : Option (Int32 × am_I × am_L) :=
  am_b3 (fX12_isOver n d I L) (fun v1 I1 L1 => if v1 = 0 then
    (am_ck (24 : Int32) 206 (am_lt (I1 17 ((24 : Int32)).toNatClampNeg) (fun v2 => if v2 = (9999 : Int32) then
      (some ((-1 : Int32), I1, L1))
      else
      (am_b2 (fX12_keep n d I1 L1) (fun I3 L3 => am_lt (0 : Int32) (fun v4 => fX12_evening_b28 n d n v4 I3 L3))))))
    else
    (some ((-1 : Int32), I1, L1)))

set_option maxRecDepth 100000 in
set_option maxHeartbeats 4000000 in
theorem tX12_evening {x : am_X} (n d : Nat) (hc : am_ok x cX12_evening yX12_evening 2 (some .int) (d + 13) 0 0) {r : Int32} {I' : am_I} {L' : am_L} (I : am_I) (L : am_L) (hf : fX12_evening n d I L = some (r, I', L')) : am_J x (fun S => S = (some (.int r), KM, RM, I', L')) 0 [some (.ref 0), none] [] KM RM I L 0 0 := by
  unfold fX12_evening at hf
  refine j_aload_n hc dX12_evening_0 rfl ?_
  refine j_callVI (t := 0) (As := []) hc dX12_evening_1 kw_1842 mX12_isOver kM_0 clX12 rfl (by omega) (Nat.le_of_ble_eq_true rfl) (Nat.le_of_ble_eq_true rfl) ⟨Nat.le_refl _, Nat.le_refl _⟩ hf (fun v I' L' h => qX12_isOver x.2.1 n d I L v I' L' h) (fun v1 I1 L1 hf => ?_)
  refine j_if_ne (tgt := 20) hc dX12_evening_4 rfl hf (fun hf => ?_) (fun hf => ?_)
  · refine j_iconst (v := (-1 : Int32)) hc dX12_evening_20 ci_m1 ?_
    exact j_ireturn hc dX12_evening_21 rfl rfl hf
  · refine j_aload_n hc dX12_evening_7 rfl ?_
    refine j_getR (u := 17) hc dX12_evening_8 fgM_X12_58_0 rM_0_27 ?_
    refine j_bipush (v := (24 : Int32)) hc dX12_evening_11 cb_24 ?_
    refine j_iaload (n := 206) hc dX12_evening_13 kM_17 hf (fun v2 hf => ?_)
    refine j_sipush (v := (9999 : Int32)) hc dX12_evening_14 cs_9999 ?_
    refine j_icmp_ne (tgt := 22) hc dX12_evening_17 rfl hf (fun hf => ?_) (fun hf => ?_)
    · refine j_aload_n hc dX12_evening_22 rfl ?_
      refine j_callVV (t := 0) (As := []) hc dX12_evening_23 kw_1846 mX12_keep kM_0 clX12 rfl (by omega) (Nat.le_of_ble_eq_true rfl) (Nat.le_of_ble_eq_true rfl) ⟨Nat.le_refl _, Nat.le_refl _⟩ hf (fun I' L' h => qX12_keep x.2.1 n d I1 L1 I' L' h) (fun I3 L3 hf => ?_)
      refine j_iconst (v := (0 : Int32)) hc dX12_evening_26 ci_0 ?_
      refine j_istore_n hc dX12_evening_27 (Nat.le_of_ble_eq_true rfl) hf (fun v4 hf => ?_)
      exact j_sub (tX12_evening_b28 n d hc n _ _ _ hf) (And.intro rfl (And.intro rfl (trivial)))
    · refine j_iconst (v := (-1 : Int32)) hc dX12_evening_20 ci_m1 ?_
      exact j_ireturn hc dX12_evening_21 rfl rfl hf

set_option maxRecDepth 100000 in
theorem qX12_evening (l : Launch) (n d : Nat) (I : am_I) (L : am_L) (r : Int32) (I' : am_I) (L' : am_L) (hf : fX12_evening n d I L = some (r, I', L')) : am_C l yX12_evening cX12_evening 2 (some .int) (d + 13) [.ref 0] KM RM I L (some (.int r)) I' L' := by
  exact am_intro (plainFor_of_name plX12) (fun _ _ => trivial) (Nat.le_of_ble_eq_true rfl) (fun x hl hc => by subst hl; exact j_sub (tX12_evening n d hc  _ _ hf) (And.intro rfl (trivial)))
set_option maxRecDepth 100000 in
def fX12_draw (n d : Nat) (a1 : Int32) (I : am_I) (L : am_L) : Option (Int32 × am_I × am_L) :=
  am_lt (am_uL L 0 31 (((L 0 31) * (6364136223846793005 : Int64)) + (1442695040888963407 : Int64))) (fun L1 => (if a1.toInt64 = 0 then none else some ((((L1 0 31).toUInt64 >>> ((33 : Int32).toInt64.toUInt64 &&& Int64.toUInt64 63)).toInt64 - ((L1 0 31).toUInt64 >>> ((33 : Int32).toInt64.toUInt64 &&& Int64.toUInt64 63)).toInt64 / a1.toInt64 * a1.toInt64).toInt32, I, L1)))

set_option maxRecDepth 100000 in
set_option maxHeartbeats 4000000 in
theorem tX12_draw {x : am_X} (n d : Nat) (hc : am_ok x cX12_draw yX12_draw 2 (some .int) (d + 1) 0 0) {r : Int32} {I' : am_I} {L' : am_L} (a1 : Int32) (I : am_I) (L : am_L) (hf : fX12_draw n d a1 I L = some (r, I', L')) : am_J x (fun S => S = (some (.int r), KM, RM, I', L')) 0 [some (.ref 0), some (.int a1)] [] KM RM I L 0 0 := by
  unfold fX12_draw at hf
  refine j_aload_n hc dX12_draw_0 rfl ?_
  refine j_aload_n hc dX12_draw_1 rfl ?_
  refine j_getL hc dX12_draw_2 fgM_X12_338_0 ?_
  refine j_ldc2 (v := (6364136223846793005 : Int64)) hc dX12_draw_5 kw_1903 ?_
  refine j_lmul hc dX12_draw_8 ?_
  refine j_ldc2 (v := (1442695040888963407 : Int64)) hc dX12_draw_9 kw_1904 ?_
  refine j_ladd hc dX12_draw_12 ?_
  refine j_putL hc dX12_draw_13 fpM_X12_338_0 rfl rfl hf (fun L1 hf => ?_)
  refine j_aload_n hc dX12_draw_16 rfl ?_
  refine j_getL hc dX12_draw_17 fgM_X12_338_0 ?_
  refine j_bipush (v := (33 : Int32)) hc dX12_draw_20 cb_33 ?_
  refine j_lushr hc dX12_draw_22 ?_
  refine j_iload_n hc dX12_draw_23 rfl ?_
  refine j_i2l hc dX12_draw_24 ?_
  refine j_lrem hc dX12_draw_25 hf (fun hf => ?_)
  refine j_l2i hc dX12_draw_26 ?_
  exact j_ireturn hc dX12_draw_27 rfl rfl hf

set_option maxRecDepth 100000 in
theorem qX12_draw (l : Launch) (n d : Nat) (a1 : Int32) (I : am_I) (L : am_L) (r : Int32) (I' : am_I) (L' : am_L) (hf : fX12_draw n d a1 I L = some (r, I', L')) : am_C l yX12_draw cX12_draw 2 (some .int) (d + 1) [.ref 0, .int a1] KM RM I L (some (.int r)) I' L' := by
  exact am_intro (plainFor_of_name plX12) (fun _ _ => trivial) (Nat.le_of_ble_eq_true rfl) (fun x hl hc => by subst hl; exact j_sub (tX12_draw n d hc _ _ _ hf) (And.intro rfl (And.intro rfl (trivial))))
set_option maxRecDepth 100000 in
def fX12_pressLowest_b2w (n d : Nat) (k2 : Int32 → Int32 → am_I → am_L → Option (am_I × am_L)) (a1 : Int32) (a2 : Int32) (I : am_I) (L : am_L) : Option (am_I × am_L) :=
  if (I 0 25) ≤ a2 then
    (some (I, L))
    else
    (am_b3 (fX12_canPress n d a1 a2 I L) (fun v1 I1 L1 => if v1 = 0 then
      (am_lt (a2 + (1 : Int32)) (fun v2 => k2 a1 v2 I1 L1))
      else
      (am_b2 (fX12_pressNow n d a1 a2 I1 L1) (fun I3 L3 => some (I3, L3)))))

set_option maxRecDepth 100000 in
set_option maxHeartbeats 4000000 in
theorem tX12_pressLowest_b2w {x : am_X} (n d : Nat) (hc : am_ok x cX12_pressLowest yX12_pressLowest 3 none (d + 14) 0 0) {I' : am_I} {L' : am_L} (k2 : Int32 → Int32 → am_I → am_L → Option (am_I × am_L)) (hk2 : ∀ (a1 : Int32) (a2 : Int32) (I : am_I) (L : am_L), k2 a1 a2 I L = some (I', L') → am_J x (fun S => S = (none, KM, RM, I', L')) 2 [some (.ref 0), some (.int a1), some (.int a2)] [] KM RM I L 0 0) (a1 : Int32) (a2 : Int32) (I : am_I) (L : am_L) (hf : fX12_pressLowest_b2w n d k2 a1 a2 I L = some (I', L')) : am_J x (fun S => S = (none, KM, RM, I', L')) 2 [some (.ref 0), some (.int a1), some (.int a2)] [] KM RM I L 0 0 := by
  unfold fX12_pressLowest_b2w at hf
  refine j_iload_n hc dX12_pressLowest_2 rfl ?_
  refine j_aload_n hc dX12_pressLowest_3 rfl ?_
  refine j_getI hc dX12_pressLowest_4 fgM_X12_250_0 ?_
  refine j_icmp_ge (tgt := 32) hc dX12_pressLowest_7 rfl hf (fun hf => ?_) (fun hf => ?_)
  · exact j_return hc dX12_pressLowest_32 rfl rfl hf
  · refine j_aload_n hc dX12_pressLowest_10 rfl ?_
    refine j_iload_n hc dX12_pressLowest_11 rfl ?_
    refine j_iload_n hc dX12_pressLowest_12 rfl ?_
    refine j_callVI (t := 0) (As := [.int a1, .int a2]) hc dX12_pressLowest_13 kw_1874 mX12_canPress kM_0 clX12 rfl (by omega) (Nat.le_of_ble_eq_true rfl) (Nat.le_of_ble_eq_true rfl) ⟨Nat.le_refl _, Nat.le_refl _⟩ hf (fun v I' L' h => qX12_canPress x.2.1 n d a1 a2 I L v I' L' h) (fun v1 I1 L1 hf => ?_)
    refine j_if_eq (tgt := 26) hc dX12_pressLowest_16 rfl hf (fun hf => ?_) (fun hf => ?_)
    · refine j_iinc (w := (1 : Int32)) hc dX12_pressLowest_26 rfl ci_1 (Nat.le_of_ble_eq_true rfl) hf (fun v2 hf => ?_)
      refine j_goto (tgt := 2) hc dX12_pressLowest_29 rfl ?_
      exact j_sub (hk2 _ _ _ _ hf) (And.intro rfl (And.intro rfl (And.intro rfl (trivial))))
    · refine j_aload_n hc dX12_pressLowest_19 rfl ?_
      refine j_iload_n hc dX12_pressLowest_20 rfl ?_
      refine j_iload_n hc dX12_pressLowest_21 rfl ?_
      refine j_callVV (t := 0) (As := [.int a1, .int a2]) hc dX12_pressLowest_22 kw_1878 mX12_pressNow kM_0 clX12 rfl (by omega) (Nat.le_of_ble_eq_true rfl) (Nat.le_of_ble_eq_true rfl) ⟨Nat.le_refl _, Nat.le_refl _⟩ hf (fun I' L' h => qX12_pressNow x.2.1 n d a1 a2 I1 L1 I' L' h) (fun I3 L3 hf => ?_)
      exact j_return hc dX12_pressLowest_25 rfl rfl hf

def fX12_pressLowest_b2 (n d : Nat) : Nat → Int32 → Int32 → am_I → am_L → Option (am_I × am_L)
  | 0 => fun _ _ _ _ => none
  | m + 1 => fX12_pressLowest_b2w n d  (fX12_pressLowest_b2 n d m)

set_option maxRecDepth 100000 in
theorem tX12_pressLowest_b2 {x : am_X} (n d : Nat) (hc : am_ok x cX12_pressLowest yX12_pressLowest 3 none (d + 14) 0 0) {I' : am_I} {L' : am_L} (m : Nat) : ∀ (a1 : Int32) (a2 : Int32) (I : am_I) (L : am_L) (hf : fX12_pressLowest_b2 n d m a1 a2 I L = some (I', L')), am_J x (fun S => S = (none, KM, RM, I', L')) 2 [some (.ref 0), some (.int a1), some (.int a2)] [] KM RM I L 0 0 := by
  induction m with
  | zero => intro a1 a2 I L hf; exact (Option.some_ne_none _ hf.symm).elim
  | succ m ih => intro a1 a2 I L hf; exact tX12_pressLowest_b2w n d hc (fX12_pressLowest_b2 n d m) ih a1 a2 I L hf

set_option maxRecDepth 100000 in
def fX12_pressLowest (n d : Nat) (a1 : Int32) (I : am_I) (L : am_L) : Option (am_I × am_L) :=
  am_lt (0 : Int32) (fun v1 => fX12_pressLowest_b2 n d n a1 v1 I L)

set_option maxRecDepth 100000 in
set_option maxHeartbeats 4000000 in
theorem tX12_pressLowest {x : am_X} (n d : Nat) (hc : am_ok x cX12_pressLowest yX12_pressLowest 3 none (d + 14) 0 0) {I' : am_I} {L' : am_L} (a1 : Int32) (I : am_I) (L : am_L) (hf : fX12_pressLowest n d a1 I L = some (I', L')) : am_J x (fun S => S = (none, KM, RM, I', L')) 0 [some (.ref 0), some (.int a1), none] [] KM RM I L 0 0 := by
  unfold fX12_pressLowest at hf
  refine j_iconst (v := (0 : Int32)) hc dX12_pressLowest_0 ci_0 ?_
  refine j_istore_n hc dX12_pressLowest_1 (Nat.le_of_ble_eq_true rfl) hf (fun v1 hf => ?_)
  exact j_sub (tX12_pressLowest_b2 n d hc n _ _ _ _ hf) (And.intro rfl (And.intro rfl (And.intro rfl (trivial))))

set_option maxRecDepth 100000 in
theorem qX12_pressLowest (l : Launch) (n d : Nat) (a1 : Int32) (I : am_I) (L : am_L) (I' : am_I) (L' : am_L) (hf : fX12_pressLowest n d a1 I L = some (I', L')) : am_C l yX12_pressLowest cX12_pressLowest 3 none (d + 14) [.ref 0, .int a1] KM RM I L none I' L' := by
  exact am_intro (plainFor_of_name plX12) (fun _ _ => trivial) (Nat.le_of_ble_eq_true rfl) (fun x hl hc => by subst hl; exact j_sub (tX12_pressLowest n d hc _ _ _ hf) (And.intro rfl (And.intro rfl (trivial))))
set_option maxRecDepth 100000 in
def fX12_drawDeed_b68 (n d : Nat) (a1 : Int32) (a2 : Int32) (I : am_I) (L : am_L) : Option (am_I × am_L) :=
  if a2 = (2 : Int32) then
    (am_b2 (fX12_pressLowest n d a1 I L) (fun I1 L1 => some (I1, L1)))
    else
    (some (I, L))

set_option maxRecDepth 100000 in
set_option maxHeartbeats 4000000 in
theorem tX12_drawDeed_b68 {x : am_X} (n d : Nat) (hc : am_ok x cX12_drawDeed yX12_drawDeed 3 none (d + 15) 0 0) {I' : am_I} {L' : am_L} (a1 : Int32) (a2 : Int32) (I : am_I) (L : am_L) (hf : fX12_drawDeed_b68 n d a1 a2 I L = some (I', L')) : am_J x (fun S => S = (none, KM, RM, I', L')) 68 [some (.ref 0), some (.int a1), some (.int a2)] [] KM RM I L 0 0 := by
  unfold fX12_drawDeed_b68 at hf
  refine j_iload_n hc dX12_drawDeed_68 rfl ?_
  refine j_iconst (v := (2 : Int32)) hc dX12_drawDeed_69 ci_2 ?_
  refine j_icmp_ne (tgt := 78) hc dX12_drawDeed_70 rfl hf (fun hf => ?_) (fun hf => ?_)
  · exact j_return hc dX12_drawDeed_78 rfl rfl hf
  · refine j_aload_n hc dX12_drawDeed_73 rfl ?_
    refine j_iload_n hc dX12_drawDeed_74 rfl ?_
    refine j_callVV (t := 0) (As := [.int a1]) hc dX12_drawDeed_75 kw_1905 mX12_pressLowest kM_0 clX12 rfl (by omega) (Nat.le_of_ble_eq_true rfl) (Nat.le_of_ble_eq_true rfl) ⟨Nat.le_refl _, Nat.le_refl _⟩ hf (fun I' L' h => qX12_pressLowest x.2.1 n d a1 I L I' L' h) (fun I1 L1 hf => ?_)
    exact j_return hc dX12_drawDeed_78 rfl rfl hf

set_option maxRecDepth 100000 in
def fX12_drawDeed_b47 (n d : Nat) (a1 : Int32) (a2 : Int32) (I : am_I) (L : am_L) : Option (am_I × am_L) :=
  if a2 = (1 : Int32) then
    (am_b3 (fX12_canStay n d a1 I L) (fun v1 I1 L1 => if v1 = 0 then
      (fX12_drawDeed_b68 n d a1 a2 I1 L1)
      else
      (am_b2 (fX12_stayNow n d a1 I1 L1) (fun I2 L2 => some (I2, L2)))))
    else
    (fX12_drawDeed_b68 n d a1 a2 I L)

set_option maxRecDepth 100000 in
set_option maxHeartbeats 4000000 in
theorem tX12_drawDeed_b47 {x : am_X} (n d : Nat) (hc : am_ok x cX12_drawDeed yX12_drawDeed 3 none (d + 15) 0 0) {I' : am_I} {L' : am_L} (a1 : Int32) (a2 : Int32) (I : am_I) (L : am_L) (hf : fX12_drawDeed_b47 n d a1 a2 I L = some (I', L')) : am_J x (fun S => S = (none, KM, RM, I', L')) 47 [some (.ref 0), some (.int a1), some (.int a2)] [] KM RM I L 0 0 := by
  unfold fX12_drawDeed_b47 at hf
  refine j_iload_n hc dX12_drawDeed_47 rfl ?_
  refine j_iconst (v := (1 : Int32)) hc dX12_drawDeed_48 ci_1 ?_
  refine j_icmp_ne (tgt := 68) hc dX12_drawDeed_49 rfl hf (fun hf => ?_) (fun hf => ?_)
  · exact j_sub (tX12_drawDeed_b68 n d hc _ _ _ _ hf) (And.intro rfl (And.intro rfl (And.intro rfl (trivial))))
  · refine j_aload_n hc dX12_drawDeed_52 rfl ?_
    refine j_iload_n hc dX12_drawDeed_53 rfl ?_
    refine j_callVI (t := 0) (As := [.int a1]) hc dX12_drawDeed_54 kw_1862 mX12_canStay kM_0 clX12 rfl (by omega) (Nat.le_of_ble_eq_true rfl) (Nat.le_of_ble_eq_true rfl) ⟨Nat.le_refl _, Nat.le_refl _⟩ hf (fun v I' L' h => qX12_canStay x.2.1 n d a1 I L v I' L' h) (fun v1 I1 L1 hf => ?_)
    refine j_if_eq (tgt := 68) hc dX12_drawDeed_57 rfl hf (fun hf => ?_) (fun hf => ?_)
    · exact j_sub (tX12_drawDeed_b68 n d hc _ _ _ _ hf) (And.intro rfl (And.intro rfl (And.intro rfl (trivial))))
    · refine j_aload_n hc dX12_drawDeed_60 rfl ?_
      refine j_iload_n hc dX12_drawDeed_61 rfl ?_
      refine j_callVV (t := 0) (As := [.int a1]) hc dX12_drawDeed_62 kw_1866 mX12_stayNow kM_0 clX12 rfl (by omega) (Nat.le_of_ble_eq_true rfl) (Nat.le_of_ble_eq_true rfl) ⟨Nat.le_refl _, Nat.le_refl _⟩ hf (fun I' L' h => qX12_stayNow x.2.1 n d a1 I1 L1 I' L' h) (fun I2 L2 hf => ?_)
      refine j_goto (tgt := 78) hc dX12_drawDeed_65 rfl ?_
      exact j_return hc dX12_drawDeed_78 rfl rfl hf

set_option maxRecDepth 100000 in
def fX12_drawDeed (n d : Nat) (a1 : Int32) (I : am_I) (L : am_L) : Option (am_I × am_L) :=
  am_b3 (fX12_draw n d (10 : Int32) I L) (fun v1 I1 L1 => am_ck (((6 : Int32) * a1) + (5 : Int32)) 48 (am_lt (I1 14 ((((6 : Int32) * a1) + (5 : Int32))).toNatClampNeg) (fun v2 => if v2 ≤ v1 then
    (am_b3 (fX12_draw n d (3 : Int32) I1 L1) (fun v3 I3 L3 => am_lt v3 (fun v4 => if v4 = 0 then
      (am_b3 (fX12_canGo n d a1 I3 L3) (fun v5 I5 L5 => if v5 = 0 then
        (fX12_drawDeed_b47 n d a1 v4 I5 L5)
        else
        (am_b2 (fX12_goNow n d a1 I5 L5) (fun I6 L6 => some (I6, L6)))))
      else
      (fX12_drawDeed_b47 n d a1 v4 I3 L3))))
    else
    (some (I1, L1)))))

set_option maxRecDepth 100000 in
set_option maxHeartbeats 4000000 in
theorem tX12_drawDeed {x : am_X} (n d : Nat) (hc : am_ok x cX12_drawDeed yX12_drawDeed 3 none (d + 15) 0 0) {I' : am_I} {L' : am_L} (a1 : Int32) (I : am_I) (L : am_L) (hf : fX12_drawDeed n d a1 I L = some (I', L')) : am_J x (fun S => S = (none, KM, RM, I', L')) 0 [some (.ref 0), some (.int a1), none] [] KM RM I L 0 0 := by
  unfold fX12_drawDeed at hf
  refine j_aload_n hc dX12_drawDeed_0 rfl ?_
  refine j_bipush (v := (10 : Int32)) hc dX12_drawDeed_1 cb_10 ?_
  refine j_callVI (t := 0) (As := [.int (10 : Int32)]) hc dX12_drawDeed_3 kw_1899 mX12_draw kM_0 clX12 rfl (by omega) (Nat.le_of_ble_eq_true rfl) (Nat.le_of_ble_eq_true rfl) ⟨Nat.le_refl _, Nat.le_refl _⟩ hf (fun v I' L' h => qX12_draw x.2.1 n d (10 : Int32) I L v I' L' h) (fun v1 I1 L1 hf => ?_)
  refine j_aload_n hc dX12_drawDeed_6 rfl ?_
  refine j_getR (u := 14) hc dX12_drawDeed_7 fgM_X12_49_0 rM_0_22 ?_
  refine j_bipush (v := (6 : Int32)) hc dX12_drawDeed_10 cb_6 ?_
  refine j_iload_n hc dX12_drawDeed_12 rfl ?_
  refine j_imul hc dX12_drawDeed_13 ?_
  refine j_iconst (v := (5 : Int32)) hc dX12_drawDeed_14 ci_5 ?_
  refine j_iadd hc dX12_drawDeed_15 ?_
  refine j_iaload (n := 48) hc dX12_drawDeed_16 kM_14 hf (fun v2 hf => ?_)
  refine j_icmp_ge (tgt := 21) hc dX12_drawDeed_17 rfl hf (fun hf => ?_) (fun hf => ?_)
  · refine j_aload_n hc dX12_drawDeed_21 rfl ?_
    refine j_iconst (v := (3 : Int32)) hc dX12_drawDeed_22 ci_3 ?_
    refine j_callVI (t := 0) (As := [.int (3 : Int32)]) hc dX12_drawDeed_23 kw_1899 mX12_draw kM_0 clX12 rfl (by omega) (Nat.le_of_ble_eq_true rfl) (Nat.le_of_ble_eq_true rfl) ⟨Nat.le_refl _, Nat.le_refl _⟩ hf (fun v I' L' h => qX12_draw x.2.1 n d (3 : Int32) I1 L1 v I' L' h) (fun v3 I3 L3 hf => ?_)
    refine j_istore_n hc dX12_drawDeed_26 (Nat.le_of_ble_eq_true rfl) hf (fun v4 hf => ?_)
    refine j_iload_n hc dX12_drawDeed_27 rfl ?_
    refine j_if_ne (tgt := 47) hc dX12_drawDeed_28 rfl hf (fun hf => ?_) (fun hf => ?_)
    · exact j_sub (tX12_drawDeed_b47 n d hc _ _ _ _ hf) (And.intro rfl (And.intro rfl (And.intro rfl (trivial))))
    · refine j_aload_n hc dX12_drawDeed_31 rfl ?_
      refine j_iload_n hc dX12_drawDeed_32 rfl ?_
      refine j_callVI (t := 0) (As := [.int a1]) hc dX12_drawDeed_33 kw_1834 mX12_canGo kM_0 clX12 rfl (by omega) (Nat.le_of_ble_eq_true rfl) (Nat.le_of_ble_eq_true rfl) ⟨Nat.le_refl _, Nat.le_refl _⟩ hf (fun v I' L' h => qX12_canGo x.2.1 n d a1 I3 L3 v I' L' h) (fun v5 I5 L5 hf => ?_)
      refine j_if_eq (tgt := 47) hc dX12_drawDeed_36 rfl hf (fun hf => ?_) (fun hf => ?_)
      · exact j_sub (tX12_drawDeed_b47 n d hc _ _ _ _ hf) (And.intro rfl (And.intro rfl (And.intro rfl (trivial))))
      · refine j_aload_n hc dX12_drawDeed_39 rfl ?_
        refine j_iload_n hc dX12_drawDeed_40 rfl ?_
        refine j_callVV (t := 0) (As := [.int a1]) hc dX12_drawDeed_41 kw_1850 mX12_goNow kM_0 clX12 rfl (by omega) (Nat.le_of_ble_eq_true rfl) (Nat.le_of_ble_eq_true rfl) ⟨Nat.le_refl _, Nat.le_refl _⟩ hf (fun I' L' h => qX12_goNow x.2.1 n d a1 I5 L5 I' L' h) (fun I6 L6 hf => ?_)
        refine j_goto (tgt := 78) hc dX12_drawDeed_44 rfl ?_
        exact j_return hc dX12_drawDeed_78 rfl rfl hf
  · exact j_return hc dX12_drawDeed_20 rfl rfl hf

set_option maxRecDepth 100000 in
theorem qX12_drawDeed (l : Launch) (n d : Nat) (a1 : Int32) (I : am_I) (L : am_L) (I' : am_I) (L' : am_L) (hf : fX12_drawDeed n d a1 I L = some (I', L')) : am_C l yX12_drawDeed cX12_drawDeed 3 none (d + 15) [.ref 0, .int a1] KM RM I L none I' L' := by
  exact am_intro (plainFor_of_name plX12) (fun _ _ => trivial) (Nat.le_of_ble_eq_true rfl) (fun x hl hc => by subst hl; exact j_sub (tX12_drawDeed n d hc _ _ _ hf) (And.intro rfl (And.intro rfl (trivial))))
set_option maxRecDepth 100000 in
def fX12_march_b102 (n d : Nat) (I : am_I) (L : am_L) : Option (Int32 × am_I × am_L) :=
  am_ck (24 : Int32) 206 (am_lt (I 17 ((24 : Int32)).toNatClampNeg) (fun v1 => some (v1, I, L)))

set_option maxRecDepth 100000 in
set_option maxHeartbeats 4000000 in
theorem tX12_march_b102 {x : am_X} (n d : Nat) (hc : am_ok x cX12_march yX12_march 6 (some .int) (d + 16) 0 0) {r : Int32} {I' : am_I} {L' : am_L} (I : am_I) (L : am_L) (hf : fX12_march_b102 n d I L = some (r, I', L')) : am_J x (fun S => S = (some (.int r), KM, RM, I', L')) 102 [some (.ref 0), none, none, none, none, none] [] KM RM I L 0 0 := by
  unfold fX12_march_b102 at hf
  refine j_aload_n hc dX12_march_102 rfl ?_
  refine j_getR (u := 17) hc dX12_march_103 fgM_X12_58_0 rM_0_27 ?_
  refine j_bipush (v := (24 : Int32)) hc dX12_march_106 cb_24 ?_
  refine j_iaload (n := 206) hc dX12_march_108 kM_17 hf (fun v1 hf => ?_)
  exact j_ireturn hc dX12_march_109 rfl rfl hf

set_option maxRecDepth 100000 in
def fX12_march_b86 (n d : Nat) (k42 : Int32 → Int32 → am_I → am_L → Option (Int32 × am_I × am_L)) (k62 : Int32 → Int32 → Int32 → am_I → am_L → Option (Int32 × am_I × am_L)) (a1 : Int32) (a4 : Int32) (a5 : Int32) (I : am_I) (L : am_L) : Option (Int32 × am_I × am_L) :=
  am_lt (a5 + (1 : Int32)) (fun v1 => k62 a1 a4 v1 I L)

set_option maxRecDepth 100000 in
set_option maxHeartbeats 4000000 in
theorem tX12_march_b86 {x : am_X} (n d : Nat) (hc : am_ok x cX12_march yX12_march 6 (some .int) (d + 16) 0 0) {r : Int32} {I' : am_I} {L' : am_L} (k42 : Int32 → Int32 → am_I → am_L → Option (Int32 × am_I × am_L)) (k62 : Int32 → Int32 → Int32 → am_I → am_L → Option (Int32 × am_I × am_L)) (hk42 : ∀ (a1 : Int32) (a4 : Int32) (I : am_I) (L : am_L), k42 a1 a4 I L = some (r, I', L') → am_J x (fun S => S = (some (.int r), KM, RM, I', L')) 42 [some (.ref 0), some (.int a1), none, none, some (.int a4), none] [] KM RM I L 0 0) (hk62 : ∀ (a1 : Int32) (a4 : Int32) (a5 : Int32) (I : am_I) (L : am_L), k62 a1 a4 a5 I L = some (r, I', L') → am_J x (fun S => S = (some (.int r), KM, RM, I', L')) 62 [some (.ref 0), some (.int a1), none, none, some (.int a4), some (.int a5)] [] KM RM I L 0 0) (a1 : Int32) (a4 : Int32) (a5 : Int32) (I : am_I) (L : am_L) (hf : fX12_march_b86 n d k42 k62 a1 a4 a5 I L = some (r, I', L')) : am_J x (fun S => S = (some (.int r), KM, RM, I', L')) 86 [some (.ref 0), some (.int a1), none, none, some (.int a4), some (.int a5)] [] KM RM I L 0 0 := by
  unfold fX12_march_b86 at hf
  refine j_iinc (w := (1 : Int32)) hc dX12_march_86 rfl ci_1 (Nat.le_of_ble_eq_true rfl) hf (fun v1 hf => ?_)
  refine j_goto (tgt := 62) hc dX12_march_89 rfl ?_
  exact j_sub (hk62 _ _ _ _ _ hf) (And.intro rfl (And.intro rfl (And.intro rfl (And.intro rfl (trivial)))))

set_option maxRecDepth 100000 in
def fX12_march_b62w (n d : Nat) (k42 : Int32 → Int32 → am_I → am_L → Option (Int32 × am_I × am_L)) (k62 : Int32 → Int32 → Int32 → am_I → am_L → Option (Int32 × am_I × am_L)) (a1 : Int32) (a4 : Int32) (a5 : Int32) (I : am_I) (L : am_L) : Option (Int32 × am_I × am_L) :=
  if (I 0 25) ≤ a5 then
    (am_b2 (fX12_endDay n d I L) (fun I1 L1 => am_lt (a4 + (1 : Int32)) (fun v2 => k42 a1 v2 I1 L1)))
    else
    (am_b3 (fX12_isFree n d a5 I L) (fun v3 I3 L3 => if v3 = 0 then
      (fX12_march_b86 n d k42 k62 a1 a4 a5 I3 L3)
      else
      (am_b2 (fX12_drawDeed n d a5 I3 L3) (fun I4 L4 => fX12_march_b86 n d k42 k62 a1 a4 a5 I4 L4))))

set_option maxRecDepth 100000 in
set_option maxHeartbeats 4000000 in
theorem tX12_march_b62w {x : am_X} (n d : Nat) (hc : am_ok x cX12_march yX12_march 6 (some .int) (d + 16) 0 0) {r : Int32} {I' : am_I} {L' : am_L} (k42 : Int32 → Int32 → am_I → am_L → Option (Int32 × am_I × am_L)) (k62 : Int32 → Int32 → Int32 → am_I → am_L → Option (Int32 × am_I × am_L)) (hk42 : ∀ (a1 : Int32) (a4 : Int32) (I : am_I) (L : am_L), k42 a1 a4 I L = some (r, I', L') → am_J x (fun S => S = (some (.int r), KM, RM, I', L')) 42 [some (.ref 0), some (.int a1), none, none, some (.int a4), none] [] KM RM I L 0 0) (hk62 : ∀ (a1 : Int32) (a4 : Int32) (a5 : Int32) (I : am_I) (L : am_L), k62 a1 a4 a5 I L = some (r, I', L') → am_J x (fun S => S = (some (.int r), KM, RM, I', L')) 62 [some (.ref 0), some (.int a1), none, none, some (.int a4), some (.int a5)] [] KM RM I L 0 0) (a1 : Int32) (a4 : Int32) (a5 : Int32) (I : am_I) (L : am_L) (hf : fX12_march_b62w n d k42 k62 a1 a4 a5 I L = some (r, I', L')) : am_J x (fun S => S = (some (.int r), KM, RM, I', L')) 62 [some (.ref 0), some (.int a1), none, none, some (.int a4), some (.int a5)] [] KM RM I L 0 0 := by
  unfold fX12_march_b62w at hf
  refine j_iload hc dX12_march_62 rfl ?_
  refine j_aload_n hc dX12_march_64 rfl ?_
  refine j_getI hc dX12_march_65 fgM_X12_250_0 ?_
  refine j_icmp_ge (tgt := 92) hc dX12_march_68 rfl hf (fun hf => ?_) (fun hf => ?_)
  · refine j_aload_n hc dX12_march_92 rfl ?_
    refine j_callVV (t := 0) (As := []) hc dX12_march_93 kw_1887 mX12_endDay kM_0 clX12 rfl (by omega) (Nat.le_of_ble_eq_true rfl) (Nat.le_of_ble_eq_true rfl) ⟨Nat.le_refl _, Nat.le_refl _⟩ hf (fun I' L' h => qX12_endDay x.2.1 n d I L I' L' h) (fun I1 L1 hf => ?_)
    refine j_iinc (w := (1 : Int32)) hc dX12_march_96 rfl ci_1 (Nat.le_of_ble_eq_true rfl) hf (fun v2 hf => ?_)
    refine j_goto (tgt := 42) hc dX12_march_99 rfl ?_
    exact j_sub (hk42 _ _ _ _ hf) (And.intro rfl (And.intro rfl (And.intro rfl (trivial))))
  · refine j_aload_n hc dX12_march_71 rfl ?_
    refine j_iload hc dX12_march_72 rfl ?_
    refine j_callVI (t := 0) (As := [.int a5]) hc dX12_march_74 kw_1838 mX12_isFree kM_0 clX12 rfl (by omega) (Nat.le_of_ble_eq_true rfl) (Nat.le_of_ble_eq_true rfl) ⟨Nat.le_refl _, Nat.le_refl _⟩ hf (fun v I' L' h => qX12_isFree x.2.1 n d a5 I L v I' L' h) (fun v3 I3 L3 hf => ?_)
    refine j_if_eq (tgt := 86) hc dX12_march_77 rfl hf (fun hf => ?_) (fun hf => ?_)
    · exact j_sub (tX12_march_b86 n d hc k42 k62 hk42 hk62 _ _ _ _ _ hf) (And.intro rfl (And.intro rfl (And.intro rfl (And.intro rfl (trivial)))))
    · refine j_aload_n hc dX12_march_80 rfl ?_
      refine j_iload hc dX12_march_81 rfl ?_
      refine j_callVV (t := 0) (As := [.int a5]) hc dX12_march_83 kw_1895 mX12_drawDeed kM_0 clX12 rfl (by omega) (Nat.le_of_ble_eq_true rfl) (Nat.le_of_ble_eq_true rfl) ⟨Nat.le_refl _, Nat.le_refl _⟩ hf (fun I' L' h => qX12_drawDeed x.2.1 n d a5 I3 L3 I' L' h) (fun I4 L4 hf => ?_)
      exact j_sub (tX12_march_b86 n d hc k42 k62 hk42 hk62 _ _ _ _ _ hf) (And.intro rfl (And.intro rfl (And.intro rfl (And.intro rfl (trivial)))))

def fX12_march_b62 (n d : Nat) (k42 : Int32 → Int32 → am_I → am_L → Option (Int32 × am_I × am_L)) : Nat → Int32 → Int32 → Int32 → am_I → am_L → Option (Int32 × am_I × am_L)
  | 0 => fun _ _ _ _ _ => none
  | m + 1 => fX12_march_b62w n d  k42 (fX12_march_b62 n d k42 m)

set_option maxRecDepth 100000 in
theorem tX12_march_b62 {x : am_X} (n d : Nat) (hc : am_ok x cX12_march yX12_march 6 (some .int) (d + 16) 0 0) {r : Int32} {I' : am_I} {L' : am_L} (k42 : Int32 → Int32 → am_I → am_L → Option (Int32 × am_I × am_L)) (hk42 : ∀ (a1 : Int32) (a4 : Int32) (I : am_I) (L : am_L), k42 a1 a4 I L = some (r, I', L') → am_J x (fun S => S = (some (.int r), KM, RM, I', L')) 42 [some (.ref 0), some (.int a1), none, none, some (.int a4), none] [] KM RM I L 0 0) (m : Nat) : ∀ (a1 : Int32) (a4 : Int32) (a5 : Int32) (I : am_I) (L : am_L) (hf : fX12_march_b62 n d k42 m a1 a4 a5 I L = some (r, I', L')), am_J x (fun S => S = (some (.int r), KM, RM, I', L')) 62 [some (.ref 0), some (.int a1), none, none, some (.int a4), some (.int a5)] [] KM RM I L 0 0 := by
  induction m with
  | zero => intro a1 a4 a5 I L hf; exact (Option.some_ne_none _ hf.symm).elim
  | succ m ih => intro a1 a4 a5 I L hf; exact tX12_march_b62w n d hc k42 (fX12_march_b62 n d k42 m) hk42 ih a1 a4 a5 I L hf

set_option maxRecDepth 100000 in
def fX12_march_b42w (n d : Nat) (k42 : Int32 → Int32 → am_I → am_L → Option (Int32 × am_I × am_L)) (a1 : Int32) (a4 : Int32) (I : am_I) (L : am_L) : Option (Int32 × am_I × am_L) :=
  if a1 ≤ a4 then
    (fX12_march_b102 n d I L)
    else
    (am_b3 (fX12_isOver n d I L) (fun v1 I1 L1 => if v1 = 0 then
      (am_b2 (fX12_keep n d I1 L1) (fun I2 L2 => am_lt (0 : Int32) (fun v3 => fX12_march_b62 n d k42 n a1 a4 v3 I2 L2)))
      else
      (fX12_march_b102 n d I1 L1)))

set_option maxRecDepth 100000 in
set_option maxHeartbeats 4000000 in
theorem tX12_march_b42w {x : am_X} (n d : Nat) (hc : am_ok x cX12_march yX12_march 6 (some .int) (d + 16) 0 0) {r : Int32} {I' : am_I} {L' : am_L} (k42 : Int32 → Int32 → am_I → am_L → Option (Int32 × am_I × am_L)) (hk42 : ∀ (a1 : Int32) (a4 : Int32) (I : am_I) (L : am_L), k42 a1 a4 I L = some (r, I', L') → am_J x (fun S => S = (some (.int r), KM, RM, I', L')) 42 [some (.ref 0), some (.int a1), none, none, some (.int a4), none] [] KM RM I L 0 0) (a1 : Int32) (a4 : Int32) (I : am_I) (L : am_L) (hf : fX12_march_b42w n d k42 a1 a4 I L = some (r, I', L')) : am_J x (fun S => S = (some (.int r), KM, RM, I', L')) 42 [some (.ref 0), some (.int a1), none, none, some (.int a4), none] [] KM RM I L 0 0 := by
  unfold fX12_march_b42w at hf
  refine j_iload hc dX12_march_42 rfl ?_
  refine j_iload_n hc dX12_march_44 rfl ?_
  refine j_icmp_ge (tgt := 102) hc dX12_march_45 rfl hf (fun hf => ?_) (fun hf => ?_)
  · exact j_sub (tX12_march_b102 n d hc _ _ hf) (And.intro rfl (trivial))
  · refine j_aload_n hc dX12_march_48 rfl ?_
    refine j_callVI (t := 0) (As := []) hc dX12_march_49 kw_1842 mX12_isOver kM_0 clX12 rfl (by omega) (Nat.le_of_ble_eq_true rfl) (Nat.le_of_ble_eq_true rfl) ⟨Nat.le_refl _, Nat.le_refl _⟩ hf (fun v I' L' h => qX12_isOver x.2.1 n d I L v I' L' h) (fun v1 I1 L1 hf => ?_)
    refine j_if_ne (tgt := 102) hc dX12_march_52 rfl hf (fun hf => ?_) (fun hf => ?_)
    · exact j_sub (tX12_march_b102 n d hc _ _ hf) (And.intro rfl (trivial))
    · refine j_aload_n hc dX12_march_55 rfl ?_
      refine j_callVV (t := 0) (As := []) hc dX12_march_56 kw_1846 mX12_keep kM_0 clX12 rfl (by omega) (Nat.le_of_ble_eq_true rfl) (Nat.le_of_ble_eq_true rfl) ⟨Nat.le_refl _, Nat.le_refl _⟩ hf (fun I' L' h => qX12_keep x.2.1 n d I1 L1 I' L' h) (fun I2 L2 hf => ?_)
      refine j_iconst (v := (0 : Int32)) hc dX12_march_59 ci_0 ?_
      refine j_istore hc dX12_march_60 (Nat.le_of_ble_eq_true rfl) hf (fun v3 hf => ?_)
      exact j_sub (tX12_march_b62 n d hc k42 hk42 n _ _ _ _ _ hf) (And.intro rfl (And.intro rfl (And.intro rfl (And.intro rfl (trivial)))))

def fX12_march_b42 (n d : Nat) : Nat → Int32 → Int32 → am_I → am_L → Option (Int32 × am_I × am_L)
  | 0 => fun _ _ _ _ => none
  | m + 1 => fX12_march_b42w n d  (fX12_march_b42 n d m)

set_option maxRecDepth 100000 in
theorem tX12_march_b42 {x : am_X} (n d : Nat) (hc : am_ok x cX12_march yX12_march 6 (some .int) (d + 16) 0 0) {r : Int32} {I' : am_I} {L' : am_L} (m : Nat) : ∀ (a1 : Int32) (a4 : Int32) (I : am_I) (L : am_L) (hf : fX12_march_b42 n d m a1 a4 I L = some (r, I', L')), am_J x (fun S => S = (some (.int r), KM, RM, I', L')) 42 [some (.ref 0), some (.int a1), none, none, some (.int a4), none] [] KM RM I L 0 0 := by
  induction m with
  | zero => intro a1 a4 I L hf; exact (Option.some_ne_none _ hf.symm).elim
  | succ m ih => intro a1 a4 I L hf; exact tX12_march_b42w n d hc (fX12_march_b42 n d m) ih a1 a4 I L hf

set_option maxRecDepth 100000 in
def fX12_march (n d : Nat) (a1 : Int32) (a2 : Int64) (I : am_I) (L : am_L) : Option (Int32 × am_I × am_L) :=
  am_b3 (fX12_isOver n d I L) (fun v1 I1 L1 => if v1 = 0 then
    (am_b3 (fX12_in n d a1 (1 : Int32) (60 : Int32) I1 L1) (fun v2 I2 L2 => if v2 = 0 then
      (some ((-1 : Int32), I2, L2))
      else
      (am_ck (24 : Int32) 206 (am_lt (I2 17 ((24 : Int32)).toNatClampNeg) (fun v3 => if (v3 + a1) ≤ (9999 : Int32) then
        (am_lt (am_uL L2 0 31 a2) (fun L4 => am_lt (0 : Int32) (fun v5 => fX12_march_b42 n d n a1 v5 I2 L4)))
        else
        (some ((-1 : Int32), I2, L2)))))))
    else
    (some ((-1 : Int32), I1, L1)))

set_option maxRecDepth 100000 in
set_option maxHeartbeats 4000000 in
theorem tX12_march {x : am_X} (n d : Nat) (hc : am_ok x cX12_march yX12_march 6 (some .int) (d + 16) 0 0) {r : Int32} {I' : am_I} {L' : am_L} (a1 : Int32) (a2 : Int64) (I : am_I) (L : am_L) (hf : fX12_march n d a1 a2 I L = some (r, I', L')) : am_J x (fun S => S = (some (.int r), KM, RM, I', L')) 0 [some (.ref 0), some (.int a1), some (.long a2), none, none, none] [] KM RM I L 0 0 := by
  unfold fX12_march at hf
  refine j_aload_n hc dX12_march_0 rfl ?_
  refine j_callVI (t := 0) (As := []) hc dX12_march_1 kw_1842 mX12_isOver kM_0 clX12 rfl (by omega) (Nat.le_of_ble_eq_true rfl) (Nat.le_of_ble_eq_true rfl) ⟨Nat.le_refl _, Nat.le_refl _⟩ hf (fun v I' L' h => qX12_isOver x.2.1 n d I L v I' L' h) (fun v1 I1 L1 hf => ?_)
  refine j_if_ne (tgt := 32) hc dX12_march_4 rfl hf (fun hf => ?_) (fun hf => ?_)
  · refine j_iconst (v := (-1 : Int32)) hc dX12_march_32 ci_m1 ?_
    exact j_ireturn hc dX12_march_33 rfl rfl hf
  · refine j_iload_n hc dX12_march_7 rfl ?_
    refine j_iconst (v := (1 : Int32)) hc dX12_march_8 ci_1 ?_
    refine j_bipush (v := (60 : Int32)) hc dX12_march_9 cb_60 ?_
    refine j_callSI (As := [.int a1, .int (1 : Int32), .int (60 : Int32)]) hc dX12_march_11 kw_1671 mX12_in  rfl (by omega) (Nat.le_of_ble_eq_true rfl) (Nat.le_of_ble_eq_true rfl) ⟨Nat.le_refl _, Nat.le_refl _⟩ hf (fun v I' L' h => qX12_in x.2.1 n d a1 (1 : Int32) (60 : Int32) I1 L1 v I' L' h) (fun v2 I2 L2 hf => ?_)
    refine j_if_eq (tgt := 32) hc dX12_march_14 rfl hf (fun hf => ?_) (fun hf => ?_)
    · refine j_iconst (v := (-1 : Int32)) hc dX12_march_32 ci_m1 ?_
      exact j_ireturn hc dX12_march_33 rfl rfl hf
    · refine j_aload_n hc dX12_march_17 rfl ?_
      refine j_getR (u := 17) hc dX12_march_18 fgM_X12_58_0 rM_0_27 ?_
      refine j_bipush (v := (24 : Int32)) hc dX12_march_21 cb_24 ?_
      refine j_iaload (n := 206) hc dX12_march_23 kM_17 hf (fun v3 hf => ?_)
      refine j_iload_n hc dX12_march_24 rfl ?_
      refine j_iadd hc dX12_march_25 ?_
      refine j_sipush (v := (9999 : Int32)) hc dX12_march_26 cs_9999 ?_
      refine j_icmp_le (tgt := 34) hc dX12_march_29 rfl hf (fun hf => ?_) (fun hf => ?_)
      · refine j_aload_n hc dX12_march_34 rfl ?_
        refine j_lload_n hc dX12_march_35 rfl ?_
        refine j_putL hc dX12_march_36 fpM_X12_338_0 rfl rfl hf (fun L4 hf => ?_)
        refine j_iconst (v := (0 : Int32)) hc dX12_march_39 ci_0 ?_
        refine j_istore hc dX12_march_40 (Nat.le_of_ble_eq_true rfl) hf (fun v5 hf => ?_)
        exact j_sub (tX12_march_b42 n d hc n _ _ _ _ hf) (And.intro rfl (And.intro rfl (And.intro rfl (trivial))))
      · refine j_iconst (v := (-1 : Int32)) hc dX12_march_32 ci_m1 ?_
        exact j_ireturn hc dX12_march_33 rfl rfl hf

set_option maxRecDepth 100000 in
theorem qX12_march (l : Launch) (n d : Nat) (a1 : Int32) (a2 : Int64) (I : am_I) (L : am_L) (r : Int32) (I' : am_I) (L' : am_L) (hf : fX12_march n d a1 a2 I L = some (r, I', L')) : am_C l yX12_march cX12_march 6 (some .int) (d + 16) [.ref 0, .int a1, .long a2] KM RM I L (some (.int r)) I' L' := by
  exact am_intro (plainFor_of_name plX12) (fun _ _ => trivial) (Nat.le_of_ble_eq_true rfl) (fun x hl hc => by subst hl; exact j_sub (tX12_march n d hc _ _ _ _ hf) (And.intro rfl (And.intro rfl (And.intro rfl (trivial)))))
set_option maxRecDepth 100000 in
def fX12_undo_b21w (n d : Nat) (k21 : Int32 → am_I → am_L → Option (Int32 × am_I × am_L)) (a1 : Int32) (I : am_I) (L : am_L) : Option (Int32 × am_I × am_L) :=
  if (206 : Int32) ≤ a1 then
    (some ((I 0 30), I, L))
    else
    (am_ck (((206 : Int32) * (I 0 30)) + a1) 8240 (am_lt (I 18 ((((206 : Int32) * (I 0 30)) + a1)).toNatClampNeg) (fun v1 => am_ck a1 206 (am_lt (am_up I 17 (a1).toNatClampNeg v1) (fun I2 => am_lt (a1 + (1 : Int32)) (fun v3 => k21 v3 I2 L))))))

set_option maxRecDepth 100000 in
set_option maxHeartbeats 4000000 in
theorem tX12_undo_b21w {x : am_X} (n d : Nat) (hc : am_ok x cX12_undo yX12_undo 2 (some .int) (d + 1) 0 0) {r : Int32} {I' : am_I} {L' : am_L} (k21 : Int32 → am_I → am_L → Option (Int32 × am_I × am_L)) (hk21 : ∀ (a1 : Int32) (I : am_I) (L : am_L), k21 a1 I L = some (r, I', L') → am_J x (fun S => S = (some (.int r), KM, RM, I', L')) 21 [some (.ref 0), some (.int a1)] [] KM RM I L 0 0) (a1 : Int32) (I : am_I) (L : am_L) (hf : fX12_undo_b21w n d k21 a1 I L = some (r, I', L')) : am_J x (fun S => S = (some (.int r), KM, RM, I', L')) 21 [some (.ref 0), some (.int a1)] [] KM RM I L 0 0 := by
  unfold fX12_undo_b21w at hf
  refine j_iload_n hc dX12_undo_21 rfl ?_
  refine j_sipush (v := (206 : Int32)) hc dX12_undo_22 cs_206 ?_
  refine j_icmp_ge (tgt := 55) hc dX12_undo_25 rfl hf (fun hf => ?_) (fun hf => ?_)
  · refine j_aload_n hc dX12_undo_55 rfl ?_
    refine j_getI hc dX12_undo_56 fgM_X12_262_0 ?_
    exact j_ireturn hc dX12_undo_59 rfl rfl hf
  · refine j_aload_n hc dX12_undo_28 rfl ?_
    refine j_getR (u := 17) hc dX12_undo_29 fgM_X12_58_0 rM_0_27 ?_
    refine j_iload_n hc dX12_undo_32 rfl ?_
    refine j_aload_n hc dX12_undo_33 rfl ?_
    refine j_getR (u := 18) hc dX12_undo_34 fgM_X12_65_0 rM_0_29 ?_
    refine j_sipush (v := (206 : Int32)) hc dX12_undo_37 cs_206 ?_
    refine j_aload_n hc dX12_undo_40 rfl ?_
    refine j_getI hc dX12_undo_41 fgM_X12_262_0 ?_
    refine j_imul hc dX12_undo_44 ?_
    refine j_iload_n hc dX12_undo_45 rfl ?_
    refine j_iadd hc dX12_undo_46 ?_
    refine j_iaload (n := 8240) hc dX12_undo_47 kM_18 hf (fun v1 hf => ?_)
    refine j_iastore (n := 206) hc dX12_undo_48 kM_17 hf (fun I2 hf => ?_)
    refine j_iinc (w := (1 : Int32)) hc dX12_undo_49 rfl ci_1 (Nat.le_of_ble_eq_true rfl) hf (fun v3 hf => ?_)
    refine j_goto (tgt := 21) hc dX12_undo_52 rfl ?_
    exact j_sub (hk21 _ _ _ hf) (And.intro rfl (And.intro rfl (trivial)))

def fX12_undo_b21 (n d : Nat) : Nat → Int32 → am_I → am_L → Option (Int32 × am_I × am_L)
  | 0 => fun _ _ _ => none
  | m + 1 => fX12_undo_b21w n d  (fX12_undo_b21 n d m)

set_option maxRecDepth 100000 in
theorem tX12_undo_b21 {x : am_X} (n d : Nat) (hc : am_ok x cX12_undo yX12_undo 2 (some .int) (d + 1) 0 0) {r : Int32} {I' : am_I} {L' : am_L} (m : Nat) : ∀ (a1 : Int32) (I : am_I) (L : am_L) (hf : fX12_undo_b21 n d m a1 I L = some (r, I', L')), am_J x (fun S => S = (some (.int r), KM, RM, I', L')) 21 [some (.ref 0), some (.int a1)] [] KM RM I L 0 0 := by
  induction m with
  | zero => intro a1 I L hf; exact (Option.some_ne_none _ hf.symm).elim
  | succ m ih => intro a1 I L hf; exact tX12_undo_b21w n d hc (fX12_undo_b21 n d m) ih a1 I L hf

set_option maxRecDepth 100000 in
def fX12_undo (n d : Nat) (I : am_I) (L : am_L) : Option (Int32 × am_I × am_L) :=
  if (I 0 30) = 0 then
    (some ((-1 : Int32), I, L))
    else
    (am_lt (am_up I 0 30 ((I 0 30) - (1 : Int32))) (fun I1 => am_lt (0 : Int32) (fun v2 => fX12_undo_b21 n d n v2 I1 L)))

set_option maxRecDepth 100000 in
set_option maxHeartbeats 4000000 in
theorem tX12_undo {x : am_X} (n d : Nat) (hc : am_ok x cX12_undo yX12_undo 2 (some .int) (d + 1) 0 0) {r : Int32} {I' : am_I} {L' : am_L} (I : am_I) (L : am_L) (hf : fX12_undo n d I L = some (r, I', L')) : am_J x (fun S => S = (some (.int r), KM, RM, I', L')) 0 [some (.ref 0), none] [] KM RM I L 0 0 := by
  unfold fX12_undo at hf
  refine j_aload_n hc dX12_undo_0 rfl ?_
  refine j_getI hc dX12_undo_1 fgM_X12_262_0 ?_
  refine j_if_ne (tgt := 9) hc dX12_undo_4 rfl hf (fun hf => ?_) (fun hf => ?_)
  · refine j_aload_n hc dX12_undo_9 rfl ?_
    refine j_dup hc dX12_undo_10 rfl ?_
    refine j_getI hc dX12_undo_11 fgM_X12_262_0 ?_
    refine j_iconst (v := (1 : Int32)) hc dX12_undo_14 ci_1 ?_
    refine j_isub hc dX12_undo_15 ?_
    refine j_putI hc dX12_undo_16 fpM_X12_262_0 rfl rfl hf (fun I1 hf => ?_)
    refine j_iconst (v := (0 : Int32)) hc dX12_undo_19 ci_0 ?_
    refine j_istore_n hc dX12_undo_20 (Nat.le_of_ble_eq_true rfl) hf (fun v2 hf => ?_)
    exact j_sub (tX12_undo_b21 n d hc n _ _ _ hf) (And.intro rfl (And.intro rfl (trivial)))
  · refine j_iconst (v := (-1 : Int32)) hc dX12_undo_7 ci_m1 ?_
    exact j_ireturn hc dX12_undo_8 rfl rfl hf

set_option maxRecDepth 100000 in
theorem qX12_undo (l : Launch) (n d : Nat) (I : am_I) (L : am_L) (r : Int32) (I' : am_I) (L' : am_L) (hf : fX12_undo n d I L = some (r, I', L')) : am_C l yX12_undo cX12_undo 2 (some .int) (d + 1) [.ref 0] KM RM I L (some (.int r)) I' L' := by
  exact am_intro (plainFor_of_name plX12) (fun _ _ => trivial) (Nat.le_of_ble_eq_true rfl) (fun x hl hc => by subst hl; exact j_sub (tX12_undo n d hc  _ _ hf) (And.intro rfl (trivial)))
set_option maxRecDepth 100000 in
def fX12_log_b52 (n d : Nat) (I : am_I) (L : am_L) : Option (Int32 × am_I × am_L) :=
  some ((-1000000 : Int32), I, L)

set_option maxRecDepth 100000 in
set_option maxHeartbeats 4000000 in
theorem tX12_log_b52 {x : am_X} (n d : Nat) (hc : am_ok x cX12_log yX12_log 3 (some .int) (d + 2) 0 0) {r : Int32} {I' : am_I} {L' : am_L} (I : am_I) (L : am_L) (hf : fX12_log_b52 n d I L = some (r, I', L')) : am_J x (fun S => S = (some (.int r), KM, RM, I', L')) 52 [none, none, none] [] KM RM I L 0 0 := by
  unfold fX12_log_b52 at hf
  refine j_ldcw (v := (-1000000 : Int32)) hc dX12_log_52 kw_1917 ?_
  exact j_ireturn hc dX12_log_55 rfl rfl hf

set_option maxRecDepth 100000 in
def fX12_log (n d : Nat) (a1 : Int32) (a2 : Int32) (I : am_I) (L : am_L) : Option (Int32 × am_I × am_L) :=
  am_ck (25 : Int32) 206 (am_lt (I 17 ((25 : Int32)).toNatClampNeg) (fun v1 => am_b3 (fX12_in n d a1 (0 : Int32) (v1 - (1 : Int32)) I L) (fun v2 I2 L2 => if v2 = 0 then
    (fX12_log_b52 n d I2 L2)
    else
    (am_b3 (fX12_in n d a2 (0 : Int32) (2 : Int32) I2 L2) (fun v3 I3 L3 => if v3 = 0 then
      (fX12_log_b52 n d I3 L3)
      else
      (am_ck (25 : Int32) 206 (am_lt (I3 17 ((25 : Int32)).toNatClampNeg) (fun v4 => am_ck (((26 : Int32) + ((3 : Int32) * ((v4 - (1 : Int32)) - a1))) + a2) 206 (am_lt (I3 17 ((((26 : Int32) + ((3 : Int32) * ((v4 - (1 : Int32)) - a1))) + a2)).toNatClampNeg) (fun v5 => some (v5, I3, L3)))))))))))

set_option maxRecDepth 100000 in
set_option maxHeartbeats 4000000 in
theorem tX12_log {x : am_X} (n d : Nat) (hc : am_ok x cX12_log yX12_log 3 (some .int) (d + 2) 0 0) {r : Int32} {I' : am_I} {L' : am_L} (a1 : Int32) (a2 : Int32) (I : am_I) (L : am_L) (hf : fX12_log n d a1 a2 I L = some (r, I', L')) : am_J x (fun S => S = (some (.int r), KM, RM, I', L')) 0 [some (.ref 0), some (.int a1), some (.int a2)] [] KM RM I L 0 0 := by
  unfold fX12_log at hf
  refine j_iload_n hc dX12_log_0 rfl ?_
  refine j_iconst (v := (0 : Int32)) hc dX12_log_1 ci_0 ?_
  refine j_aload_n hc dX12_log_2 rfl ?_
  refine j_getR (u := 17) hc dX12_log_3 fgM_X12_58_0 rM_0_27 ?_
  refine j_bipush (v := (25 : Int32)) hc dX12_log_6 cb_25 ?_
  refine j_iaload (n := 206) hc dX12_log_8 kM_17 hf (fun v1 hf => ?_)
  refine j_iconst (v := (1 : Int32)) hc dX12_log_9 ci_1 ?_
  refine j_isub hc dX12_log_10 ?_
  refine j_callSI (As := [.int a1, .int (0 : Int32), .int (v1 - (1 : Int32))]) hc dX12_log_11 kw_1671 mX12_in  rfl (by omega) (Nat.le_of_ble_eq_true rfl) (Nat.le_of_ble_eq_true rfl) ⟨Nat.le_refl _, Nat.le_refl _⟩ hf (fun v I' L' h => qX12_in x.2.1 n d a1 (0 : Int32) (v1 - (1 : Int32)) I L v I' L' h) (fun v2 I2 L2 hf => ?_)
  refine j_if_eq (tgt := 52) hc dX12_log_14 rfl hf (fun hf => ?_) (fun hf => ?_)
  · exact j_sub (tX12_log_b52 n d hc _ _ hf) (trivial)
  · refine j_iload_n hc dX12_log_17 rfl ?_
    refine j_iconst (v := (0 : Int32)) hc dX12_log_18 ci_0 ?_
    refine j_iconst (v := (2 : Int32)) hc dX12_log_19 ci_2 ?_
    refine j_callSI (As := [.int a2, .int (0 : Int32), .int (2 : Int32)]) hc dX12_log_20 kw_1671 mX12_in  rfl (by omega) (Nat.le_of_ble_eq_true rfl) (Nat.le_of_ble_eq_true rfl) ⟨Nat.le_refl _, Nat.le_refl _⟩ hf (fun v I' L' h => qX12_in x.2.1 n d a2 (0 : Int32) (2 : Int32) I2 L2 v I' L' h) (fun v3 I3 L3 hf => ?_)
    refine j_if_eq (tgt := 52) hc dX12_log_23 rfl hf (fun hf => ?_) (fun hf => ?_)
    · exact j_sub (tX12_log_b52 n d hc _ _ hf) (trivial)
    · refine j_aload_n hc dX12_log_26 rfl ?_
      refine j_getR (u := 17) hc dX12_log_27 fgM_X12_58_0 rM_0_27 ?_
      refine j_bipush (v := (26 : Int32)) hc dX12_log_30 cb_26 ?_
      refine j_iconst (v := (3 : Int32)) hc dX12_log_32 ci_3 ?_
      refine j_aload_n hc dX12_log_33 rfl ?_
      refine j_getR (u := 17) hc dX12_log_34 fgM_X12_58_0 rM_0_27 ?_
      refine j_bipush (v := (25 : Int32)) hc dX12_log_37 cb_25 ?_
      refine j_iaload (n := 206) hc dX12_log_39 kM_17 hf (fun v4 hf => ?_)
      refine j_iconst (v := (1 : Int32)) hc dX12_log_40 ci_1 ?_
      refine j_isub hc dX12_log_41 ?_
      refine j_iload_n hc dX12_log_42 rfl ?_
      refine j_isub hc dX12_log_43 ?_
      refine j_imul hc dX12_log_44 ?_
      refine j_iadd hc dX12_log_45 ?_
      refine j_iload_n hc dX12_log_46 rfl ?_
      refine j_iadd hc dX12_log_47 ?_
      refine j_iaload (n := 206) hc dX12_log_48 kM_17 hf (fun v5 hf => ?_)
      refine j_goto (tgt := 55) hc dX12_log_49 rfl ?_
      exact j_ireturn hc dX12_log_55 rfl rfl hf

set_option maxRecDepth 100000 in
theorem qX12_log (l : Launch) (n d : Nat) (a1 : Int32) (a2 : Int32) (I : am_I) (L : am_L) (r : Int32) (I' : am_I) (L' : am_L) (hf : fX12_log n d a1 a2 I L = some (r, I', L')) : am_C l yX12_log cX12_log 3 (some .int) (d + 2) [.ref 0, .int a1, .int a2] KM RM I L (some (.int r)) I' L' := by
  exact am_intro (plainFor_of_name plX12) (fun _ _ => trivial) (Nat.le_of_ble_eq_true rfl) (fun x hl hc => by subst hl; exact j_sub (tX12_log n d hc _ _ _ _ hf) (And.intro rfl (And.intro rfl (And.intro rfl (trivial)))))
set_option maxRecDepth 100000 in
def fX12_canDuel (n d : Nat) (a1 : Int32) (a2 : Int32) (I : am_I) (L : am_L) : Option (Int32 × am_I × am_L) :=
  am_b3 (fX12_isMan n d a1 I L) (fun v1 I1 L1 => if v1 = 0 then
    (some ((0 : Int32), I1, L1))
    else
    (am_b3 (fX12_isMan n d a2 I1 L1) (fun v2 I2 L2 => if v2 = 0 then
      (some ((0 : Int32), I2, L2))
      else
      (if a1 = a2 then
        (some ((0 : Int32), I2, L2))
        else
        (am_ck ((0 : Int32) + a1) 206 (am_lt (I2 17 (((0 : Int32) + a1)).toNatClampNeg) (fun v3 => if v3 ≤ 0 then
          (some ((0 : Int32), I2, L2))
          else
          (am_ck ((0 : Int32) + a2) 206 (am_lt (I2 17 (((0 : Int32) + a2)).toNatClampNeg) (fun v4 => if v4 ≤ 0 then
            (some ((0 : Int32), I2, L2))
            else
            (some ((1 : Int32), I2, L2))))))))))))

set_option maxRecDepth 100000 in
set_option maxHeartbeats 4000000 in
theorem tX12_canDuel {x : am_X} (n d : Nat) (hc : am_ok x cX12_canDuel yX12_canDuel 3 (some .boolean) (d + 3) 0 0) {r : Int32} {I' : am_I} {L' : am_L} (a1 : Int32) (a2 : Int32) (I : am_I) (L : am_L) (hf : fX12_canDuel n d a1 a2 I L = some (r, I', L')) : am_J x (fun S => S = (some (.int r), KM, RM, I', L')) 0 [some (.ref 0), some (.int a1), some (.int a2)] [] KM RM I L 0 0 := by
  unfold fX12_canDuel at hf
  refine j_aload_n hc dX12_canDuel_0 rfl ?_
  refine j_iload_n hc dX12_canDuel_1 rfl ?_
  refine j_callVI (t := 0) (As := [.int a1]) hc dX12_canDuel_2 kw_1768 mX12_isMan kM_0 clX12 rfl (by omega) (Nat.le_of_ble_eq_true rfl) (Nat.le_of_ble_eq_true rfl) ⟨Nat.le_refl _, Nat.le_refl _⟩ hf (fun v I' L' h => qX12_isMan x.2.1 n d a1 I L v I' L' h) (fun v1 I1 L1 hf => ?_)
  refine j_if_eq (tgt := 47) hc dX12_canDuel_5 rfl hf (fun hf => ?_) (fun hf => ?_)
  · refine j_iconst (v := (0 : Int32)) hc dX12_canDuel_47 ci_0 ?_
    exact j_zret hc dX12_canDuel_48 rfl rfl (Or.inl rfl) hf
  · refine j_aload_n hc dX12_canDuel_8 rfl ?_
    refine j_iload_n hc dX12_canDuel_9 rfl ?_
    refine j_callVI (t := 0) (As := [.int a2]) hc dX12_canDuel_10 kw_1768 mX12_isMan kM_0 clX12 rfl (by omega) (Nat.le_of_ble_eq_true rfl) (Nat.le_of_ble_eq_true rfl) ⟨Nat.le_refl _, Nat.le_refl _⟩ hf (fun v I' L' h => qX12_isMan x.2.1 n d a2 I1 L1 v I' L' h) (fun v2 I2 L2 hf => ?_)
    refine j_if_eq (tgt := 47) hc dX12_canDuel_13 rfl hf (fun hf => ?_) (fun hf => ?_)
    · refine j_iconst (v := (0 : Int32)) hc dX12_canDuel_47 ci_0 ?_
      exact j_zret hc dX12_canDuel_48 rfl rfl (Or.inl rfl) hf
    · refine j_iload_n hc dX12_canDuel_16 rfl ?_
      refine j_iload_n hc dX12_canDuel_17 rfl ?_
      refine j_icmp_eq (tgt := 47) hc dX12_canDuel_18 rfl hf (fun hf => ?_) (fun hf => ?_)
      · refine j_iconst (v := (0 : Int32)) hc dX12_canDuel_47 ci_0 ?_
        exact j_zret hc dX12_canDuel_48 rfl rfl (Or.inl rfl) hf
      · refine j_aload_n hc dX12_canDuel_21 rfl ?_
        refine j_getR (u := 17) hc dX12_canDuel_22 fgM_X12_58_0 rM_0_27 ?_
        refine j_iconst (v := (0 : Int32)) hc dX12_canDuel_25 ci_0 ?_
        refine j_iload_n hc dX12_canDuel_26 rfl ?_
        refine j_iadd hc dX12_canDuel_27 ?_
        refine j_iaload (n := 206) hc dX12_canDuel_28 kM_17 hf (fun v3 hf => ?_)
        refine j_if_le (tgt := 47) hc dX12_canDuel_29 rfl hf (fun hf => ?_) (fun hf => ?_)
        · refine j_iconst (v := (0 : Int32)) hc dX12_canDuel_47 ci_0 ?_
          exact j_zret hc dX12_canDuel_48 rfl rfl (Or.inl rfl) hf
        · refine j_aload_n hc dX12_canDuel_32 rfl ?_
          refine j_getR (u := 17) hc dX12_canDuel_33 fgM_X12_58_0 rM_0_27 ?_
          refine j_iconst (v := (0 : Int32)) hc dX12_canDuel_36 ci_0 ?_
          refine j_iload_n hc dX12_canDuel_37 rfl ?_
          refine j_iadd hc dX12_canDuel_38 ?_
          refine j_iaload (n := 206) hc dX12_canDuel_39 kM_17 hf (fun v4 hf => ?_)
          refine j_if_le (tgt := 47) hc dX12_canDuel_40 rfl hf (fun hf => ?_) (fun hf => ?_)
          · refine j_iconst (v := (0 : Int32)) hc dX12_canDuel_47 ci_0 ?_
            exact j_zret hc dX12_canDuel_48 rfl rfl (Or.inl rfl) hf
          · refine j_iconst (v := (1 : Int32)) hc dX12_canDuel_43 ci_1 ?_
            refine j_goto (tgt := 48) hc dX12_canDuel_44 rfl ?_
            exact j_zret hc dX12_canDuel_48 rfl rfl (Or.inr rfl) hf

set_option maxRecDepth 100000 in
theorem qX12_canDuel (l : Launch) (n d : Nat) (a1 : Int32) (a2 : Int32) (I : am_I) (L : am_L) (r : Int32) (I' : am_I) (L' : am_L) (hf : fX12_canDuel n d a1 a2 I L = some (r, I', L')) : am_C l yX12_canDuel cX12_canDuel 3 (some .boolean) (d + 3) [.ref 0, .int a1, .int a2] KM RM I L (some (.int r)) I' L' := by
  exact am_intro (plainFor_of_name plX12) (fun _ _ => trivial) (Nat.le_of_ble_eq_true rfl) (fun x hl hc => by subst hl; exact j_sub (tX12_canDuel n d hc _ _ _ _ hf) (And.intro rfl (And.intro rfl (And.intro rfl (trivial)))))
set_option maxRecDepth 100000 in
def fX12_place (n d : Nat) (a0 : Int32) (a1 : Int32) (a2 : Int32) (a3 : Int32) (a4 : Int32) (I : am_I) (L : am_L) : Option (Int32 × am_I × am_L) :=
  some (((((((((a0 * (21 : Int32)) + a1) * (10 : Int32)) + a2) * (21 : Int32)) + a3) * (10 : Int32)) + a4), I, L)

set_option maxRecDepth 100000 in
set_option maxHeartbeats 4000000 in
theorem tX12_place {x : am_X} (n d : Nat) (hc : am_ok x cX12_place yX12_place 5 (some .int) (d + 1) 0 0) {r : Int32} {I' : am_I} {L' : am_L} (a0 : Int32) (a1 : Int32) (a2 : Int32) (a3 : Int32) (a4 : Int32) (I : am_I) (L : am_L) (hf : fX12_place n d a0 a1 a2 a3 a4 I L = some (r, I', L')) : am_J x (fun S => S = (some (.int r), KM, RM, I', L')) 0 [some (.int a0), some (.int a1), some (.int a2), some (.int a3), some (.int a4)] [] KM RM I L 0 0 := by
  unfold fX12_place at hf
  refine j_iload_n hc dX12_place_0 rfl ?_
  refine j_bipush (v := (21 : Int32)) hc dX12_place_1 cb_21 ?_
  refine j_imul hc dX12_place_3 ?_
  refine j_iload_n hc dX12_place_4 rfl ?_
  refine j_iadd hc dX12_place_5 ?_
  refine j_bipush (v := (10 : Int32)) hc dX12_place_6 cb_10 ?_
  refine j_imul hc dX12_place_8 ?_
  refine j_iload_n hc dX12_place_9 rfl ?_
  refine j_iadd hc dX12_place_10 ?_
  refine j_bipush (v := (21 : Int32)) hc dX12_place_11 cb_21 ?_
  refine j_imul hc dX12_place_13 ?_
  refine j_iload_n hc dX12_place_14 rfl ?_
  refine j_iadd hc dX12_place_15 ?_
  refine j_bipush (v := (10 : Int32)) hc dX12_place_16 cb_10 ?_
  refine j_imul hc dX12_place_18 ?_
  refine j_iload hc dX12_place_19 rfl ?_
  refine j_iadd hc dX12_place_21 ?_
  exact j_ireturn hc dX12_place_22 rfl rfl hf

set_option maxRecDepth 100000 in
theorem qX12_place (l : Launch) (n d : Nat) (a0 : Int32) (a1 : Int32) (a2 : Int32) (a3 : Int32) (a4 : Int32) (I : am_I) (L : am_L) (r : Int32) (I' : am_I) (L' : am_L) (hf : fX12_place n d a0 a1 a2 a3 a4 I L = some (r, I', L')) : am_C l yX12_place cX12_place 5 (some .int) (d + 1) [.int a0, .int a1, .int a2, .int a3, .int a4] KM RM I L (some (.int r)) I' L' := by
  exact am_intro (plainFor_of_name plX12) (fun _ _ => trivial) (Nat.le_of_ble_eq_true rfl) (fun x hl hc => by subst hl; exact j_sub (tX12_place n d hc _ _ _ _ _ _ _ hf) (And.intro rfl (And.intro rfl (And.intro rfl (And.intro rfl (And.intro rfl (trivial)))))))
set_option maxRecDepth 100000 in
def fX12_turned (n d : Nat) (a0 : Int32) (I : am_I) (L : am_L) : Option (Int32 × am_I × am_L) :=
  if a0 ≤ 0 then
    (some (((1 : Int32) - a0), I, L))
    else
    (some (((-a0) - (1 : Int32)), I, L))

set_option maxRecDepth 100000 in
set_option maxHeartbeats 4000000 in
theorem tX12_turned {x : am_X} (n d : Nat) (hc : am_ok x cX12_turned yX12_turned 1 (some .int) (d + 1) 0 0) {r : Int32} {I' : am_I} {L' : am_L} (a0 : Int32) (I : am_I) (L : am_L) (hf : fX12_turned n d a0 I L = some (r, I', L')) : am_J x (fun S => S = (some (.int r), KM, RM, I', L')) 0 [some (.int a0)] [] KM RM I L 0 0 := by
  unfold fX12_turned at hf
  refine j_iload_n hc dX12_turned_0 rfl ?_
  refine j_if_le (tgt := 11) hc dX12_turned_1 rfl hf (fun hf => ?_) (fun hf => ?_)
  · refine j_iconst (v := (1 : Int32)) hc dX12_turned_11 ci_1 ?_
    refine j_iload_n hc dX12_turned_12 rfl ?_
    refine j_isub hc dX12_turned_13 ?_
    exact j_ireturn hc dX12_turned_14 rfl rfl hf
  · refine j_iload_n hc dX12_turned_4 rfl ?_
    refine j_ineg hc dX12_turned_5 ?_
    refine j_iconst (v := (1 : Int32)) hc dX12_turned_6 ci_1 ?_
    refine j_isub hc dX12_turned_7 ?_
    refine j_goto (tgt := 14) hc dX12_turned_8 rfl ?_
    exact j_ireturn hc dX12_turned_14 rfl rfl hf

set_option maxRecDepth 100000 in
theorem qX12_turned (l : Launch) (n d : Nat) (a0 : Int32) (I : am_I) (L : am_L) (r : Int32) (I' : am_I) (L' : am_L) (hf : fX12_turned n d a0 I L = some (r, I', L')) : am_C l yX12_turned cX12_turned 1 (some .int) (d + 1) [.int a0] KM RM I L (some (.int r)) I' L' := by
  exact am_intro (plainFor_of_name plX12) (fun _ _ => trivial) (Nat.le_of_ble_eq_true rfl) (fun x hl hc => by subst hl; exact j_sub (tX12_turned n d hc _ _ _ hf) (And.intro rfl (trivial)))
set_option maxRecDepth 100000 in
def fX12_isBetter_b13 (n d : Nat) (I : am_I) (L : am_L) : Option (Int32 × am_I × am_L) :=
  some ((1 : Int32), I, L)

set_option maxRecDepth 100000 in
set_option maxHeartbeats 4000000 in
theorem tX12_isBetter_b13 {x : am_X} (n d : Nat) (hc : am_ok x cX12_isBetter yX12_isBetter 2 (some .boolean) (d + 1) 0 0) {r : Int32} {I' : am_I} {L' : am_L} (I : am_I) (L : am_L) (hf : fX12_isBetter_b13 n d I L = some (r, I', L')) : am_J x (fun S => S = (some (.int r), KM, RM, I', L')) 13 [none, none] [] KM RM I L 0 0 := by
  unfold fX12_isBetter_b13 at hf
  refine j_iconst (v := (1 : Int32)) hc dX12_isBetter_13 ci_1 ?_
  refine j_goto (tgt := 35) hc dX12_isBetter_14 rfl ?_
  exact j_zret hc dX12_isBetter_35 rfl rfl (Or.inr rfl) hf

set_option maxRecDepth 100000 in
def fX12_isBetter (n d : Nat) (a0 : Int32) (a1 : Int32) (I : am_I) (L : am_L) : Option (Int32 × am_I × am_L) :=
  if a0 ≤ 0 then
    (if (0 : Int32) ≤ a1 then
      (some ((0 : Int32), I, L))
      else
      (if a1 ≤ a0 then
        (some ((0 : Int32), I, L))
        else
        (some ((1 : Int32), I, L))))
    else
    (if a1 < 0 then
      (fX12_isBetter_b13 n d I L)
      else
      (if a1 ≤ a0 then
        (some ((0 : Int32), I, L))
        else
        (fX12_isBetter_b13 n d I L)))

set_option maxRecDepth 100000 in
set_option maxHeartbeats 4000000 in
theorem tX12_isBetter {x : am_X} (n d : Nat) (hc : am_ok x cX12_isBetter yX12_isBetter 2 (some .boolean) (d + 1) 0 0) {r : Int32} {I' : am_I} {L' : am_L} (a0 : Int32) (a1 : Int32) (I : am_I) (L : am_L) (hf : fX12_isBetter n d a0 a1 I L = some (r, I', L')) : am_J x (fun S => S = (some (.int r), KM, RM, I', L')) 0 [some (.int a0), some (.int a1)] [] KM RM I L 0 0 := by
  unfold fX12_isBetter at hf
  refine j_iload_n hc dX12_isBetter_0 rfl ?_
  refine j_if_le (tgt := 21) hc dX12_isBetter_1 rfl hf (fun hf => ?_) (fun hf => ?_)
  · refine j_iload_n hc dX12_isBetter_21 rfl ?_
    refine j_if_ge (tgt := 34) hc dX12_isBetter_22 rfl hf (fun hf => ?_) (fun hf => ?_)
    · refine j_iconst (v := (0 : Int32)) hc dX12_isBetter_34 ci_0 ?_
      exact j_zret hc dX12_isBetter_35 rfl rfl (Or.inl rfl) hf
    · refine j_iload_n hc dX12_isBetter_25 rfl ?_
      refine j_iload_n hc dX12_isBetter_26 rfl ?_
      refine j_icmp_ge (tgt := 34) hc dX12_isBetter_27 rfl hf (fun hf => ?_) (fun hf => ?_)
      · refine j_iconst (v := (0 : Int32)) hc dX12_isBetter_34 ci_0 ?_
        exact j_zret hc dX12_isBetter_35 rfl rfl (Or.inl rfl) hf
      · refine j_iconst (v := (1 : Int32)) hc dX12_isBetter_30 ci_1 ?_
        refine j_goto (tgt := 35) hc dX12_isBetter_31 rfl ?_
        exact j_zret hc dX12_isBetter_35 rfl rfl (Or.inr rfl) hf
  · refine j_iload_n hc dX12_isBetter_4 rfl ?_
    refine j_if_lt (tgt := 13) hc dX12_isBetter_5 rfl hf (fun hf => ?_) (fun hf => ?_)
    · exact j_sub (tX12_isBetter_b13 n d hc _ _ hf) (trivial)
    · refine j_iload_n hc dX12_isBetter_8 rfl ?_
      refine j_iload_n hc dX12_isBetter_9 rfl ?_
      refine j_icmp_ge (tgt := 17) hc dX12_isBetter_10 rfl hf (fun hf => ?_) (fun hf => ?_)
      · refine j_iconst (v := (0 : Int32)) hc dX12_isBetter_17 ci_0 ?_
        refine j_goto (tgt := 35) hc dX12_isBetter_18 rfl ?_
        exact j_zret hc dX12_isBetter_35 rfl rfl (Or.inl rfl) hf
      · exact j_sub (tX12_isBetter_b13 n d hc _ _ hf) (trivial)

set_option maxRecDepth 100000 in
theorem qX12_isBetter (l : Launch) (n d : Nat) (a0 : Int32) (a1 : Int32) (I : am_I) (L : am_L) (r : Int32) (I' : am_I) (L' : am_L) (hf : fX12_isBetter n d a0 a1 I L = some (r, I', L')) : am_C l yX12_isBetter cX12_isBetter 2 (some .boolean) (d + 1) [.int a0, .int a1] KM RM I L (some (.int r)) I' L' := by
  exact am_intro (plainFor_of_name plX12) (fun _ _ => trivial) (Nat.le_of_ble_eq_true rfl) (fun x hl hc => by subst hl; exact j_sub (tX12_isBetter n d hc _ _ _ _ hf) (And.intro rfl (And.intro rfl (trivial))))
set_option maxRecDepth 100000 in
def fX12_outcomeOf_b179 (n d : Nat) (g : Nat → Int32 → Int32 → Int32 → Int32 → Int32 → am_I → am_L → Option (Int32 × am_I × am_L)) (a6 : Int32) (a7 : Int32) (a8 : Int32) (I : am_I) (L : am_L) : Option (Int32 × am_I × am_L) :=
  am_ck a6 88200 (am_lt (am_up I 19 (a6).toNatClampNeg a7) (fun I1 => am_lt (am_up I1 0 34 a8) (fun I2 => some (a7, I2, L))))

set_option maxRecDepth 100000 in
set_option maxHeartbeats 4000000 in
theorem tX12_outcomeOf_b179 {x : am_X} (n d : Nat) (g : Nat → Int32 → Int32 → Int32 → Int32 → Int32 → am_I → am_L → Option (Int32 × am_I × am_L)) (hg : ∀ (w : Nat) (e1 e2 e3 e4 e5 : Int32) (I : am_I) (L : am_L) (v : Int32) (I' : am_I) (L' : am_L), g w e1 e2 e3 e4 e5 I L = some (v, I', L') → (w = 0 → am_C x.2.1 yX12_outcomeOf cX12_outcomeOf 12 (some .int) (d + 2) [.ref 0, .int e1, .int e2, .int e3, .int e4, .int e5] KM RM I L (some (.int v)) I' L')) (hc : am_ok x cX12_outcomeOf yX12_outcomeOf 12 (some .int) (d + 3) 0 0) {r : Int32} {I' : am_I} {L' : am_L} (a6 : Int32) (a7 : Int32) (a8 : Int32) (I : am_I) (L : am_L) (hf : fX12_outcomeOf_b179 n d g a6 a7 a8 I L = some (r, I', L')) : am_J x (fun S => S = (some (.int r), KM, RM, I', L')) 179 [some (.ref 0), none, none, none, none, none, some (.int a6), some (.int a7), some (.int a8), none, none, none] [] KM RM I L 0 0 := by
  unfold fX12_outcomeOf_b179 at hf
  refine j_aload_n hc dX12_outcomeOf_179 rfl ?_
  refine j_getR (u := 19) hc dX12_outcomeOf_180 fgM_X12_69_0 rM_0_32 ?_
  refine j_iload hc dX12_outcomeOf_183 rfl ?_
  refine j_iload hc dX12_outcomeOf_185 rfl ?_
  refine j_iastore (n := 88200) hc dX12_outcomeOf_187 kM_19 hf (fun I1 hf => ?_)
  refine j_aload_n hc dX12_outcomeOf_188 rfl ?_
  refine j_iload hc dX12_outcomeOf_189 rfl ?_
  refine j_putI hc dX12_outcomeOf_191 fpM_X12_366_0 rfl rfl hf (fun I2 hf => ?_)
  refine j_iload hc dX12_outcomeOf_194 rfl ?_
  exact j_ireturn hc dX12_outcomeOf_196 rfl rfl hf

set_option maxRecDepth 100000 in
def fX12_outcomeOf_b160 (n d : Nat) (g : Nat → Int32 → Int32 → Int32 → Int32 → Int32 → am_I → am_L → Option (Int32 × am_I × am_L)) (s0 : Int32) (a6 : Int32) (a7 : Int32) (a8 : Int32) (I : am_I) (L : am_L) : Option (Int32 × am_I × am_L) :=
  am_lt s0 (fun v1 => am_b3 (fX12_isBetter n d v1 a7 I L) (fun v2 I2 L2 => if v2 = 0 then
    (fX12_outcomeOf_b179 n d g a6 a7 a8 I2 L2)
    else
    (am_lt v1 (fun v3 => am_lt (2 : Int32) (fun v4 => fX12_outcomeOf_b179 n d g a6 v3 v4 I2 L2)))))

set_option maxRecDepth 100000 in
set_option maxHeartbeats 4000000 in
theorem tX12_outcomeOf_b160 {x : am_X} (n d : Nat) (g : Nat → Int32 → Int32 → Int32 → Int32 → Int32 → am_I → am_L → Option (Int32 × am_I × am_L)) (hg : ∀ (w : Nat) (e1 e2 e3 e4 e5 : Int32) (I : am_I) (L : am_L) (v : Int32) (I' : am_I) (L' : am_L), g w e1 e2 e3 e4 e5 I L = some (v, I', L') → (w = 0 → am_C x.2.1 yX12_outcomeOf cX12_outcomeOf 12 (some .int) (d + 2) [.ref 0, .int e1, .int e2, .int e3, .int e4, .int e5] KM RM I L (some (.int v)) I' L')) (hc : am_ok x cX12_outcomeOf yX12_outcomeOf 12 (some .int) (d + 3) 0 0) {r : Int32} {I' : am_I} {L' : am_L} (s0 : Int32) (a6 : Int32) (a7 : Int32) (a8 : Int32) (I : am_I) (L : am_L) (hf : fX12_outcomeOf_b160 n d g s0 a6 a7 a8 I L = some (r, I', L')) : am_J x (fun S => S = (some (.int r), KM, RM, I', L')) 160 [some (.ref 0), none, none, none, none, none, some (.int a6), some (.int a7), some (.int a8), none, none, none] [.int s0] KM RM I L 0 0 := by
  unfold fX12_outcomeOf_b160 at hf
  refine j_istore hc dX12_outcomeOf_160 (Nat.le_of_ble_eq_true rfl) hf (fun v1 hf => ?_)
  refine j_iload hc dX12_outcomeOf_162 rfl ?_
  refine j_iload hc dX12_outcomeOf_164 rfl ?_
  refine j_callSI (As := [.int v1, .int a7]) hc dX12_outcomeOf_166 kw_1940 mX12_isBetter  rfl (by omega) (Nat.le_of_ble_eq_true rfl) (Nat.le_of_ble_eq_true rfl) ⟨Nat.le_refl _, Nat.le_refl _⟩ hf (fun v I' L' h => qX12_isBetter x.2.1 n d v1 a7 I L v I' L' h) (fun v2 I2 L2 hf => ?_)
  refine j_if_eq (tgt := 179) hc dX12_outcomeOf_169 rfl hf (fun hf => ?_) (fun hf => ?_)
  · exact j_sub (tX12_outcomeOf_b179 n d g hg hc _ _ _ _ _ hf) (And.intro rfl (And.intro rfl (And.intro rfl (And.intro rfl (trivial)))))
  · refine j_iload hc dX12_outcomeOf_172 rfl ?_
    refine j_istore hc dX12_outcomeOf_174 (Nat.le_of_ble_eq_true rfl) hf (fun v3 hf => ?_)
    refine j_iconst (v := (2 : Int32)) hc dX12_outcomeOf_176 ci_2 ?_
    refine j_istore hc dX12_outcomeOf_177 (Nat.le_of_ble_eq_true rfl) hf (fun v4 hf => ?_)
    exact j_sub (tX12_outcomeOf_b179 n d g hg hc _ _ _ _ _ hf) (And.intro rfl (And.intro rfl (And.intro rfl (And.intro rfl (trivial)))))

set_option maxRecDepth 100000 in
def fX12_outcomeOf_b114 (n d : Nat) (g : Nat → Int32 → Int32 → Int32 → Int32 → Int32 → am_I → am_L → Option (Int32 × am_I × am_L)) (a1 : Int32) (a2 : Int32) (a3 : Int32) (a4 : Int32) (a6 : Int32) (a7 : Int32) (a8 : Int32) (I : am_I) (L : am_L) : Option (Int32 × am_I × am_L) :=
  am_ck a1 2 (am_lt (I 20 (a1).toNatClampNeg) (fun v1 => am_b3 (fJ9_max_7cf53 n d (0 : Int32) (a4 - v1) I L) (fun v2 I2 L2 => am_lt v2 (fun v3 => if v3 = 0 then
    (fX12_outcomeOf_b160 n d g (1 : Int32) a6 a7 a8 I2 L2)
    else
    (am_b3 (fX12_restAt n d v3 I2 L2) (fun v4 I4 L4 => am_b3 (g 0 ((1 : Int32) - a1) v3 v4 a2 (a3 - (1 : Int32)) I4 L4) (fun v5 I5 L5 => am_b3 (fX12_turned n d v5 I5 L5) (fun v6 I6 L6 => fX12_outcomeOf_b160 n d g v6 a6 a7 a8 I6 L6))))))))

set_option maxRecDepth 100000 in
set_option maxHeartbeats 4000000 in
theorem tX12_outcomeOf_b114 {x : am_X} (n d : Nat) (g : Nat → Int32 → Int32 → Int32 → Int32 → Int32 → am_I → am_L → Option (Int32 × am_I × am_L)) (hg : ∀ (w : Nat) (e1 e2 e3 e4 e5 : Int32) (I : am_I) (L : am_L) (v : Int32) (I' : am_I) (L' : am_L), g w e1 e2 e3 e4 e5 I L = some (v, I', L') → (w = 0 → am_C x.2.1 yX12_outcomeOf cX12_outcomeOf 12 (some .int) (d + 2) [.ref 0, .int e1, .int e2, .int e3, .int e4, .int e5] KM RM I L (some (.int v)) I' L')) (hc : am_ok x cX12_outcomeOf yX12_outcomeOf 12 (some .int) (d + 3) 0 0) {r : Int32} {I' : am_I} {L' : am_L} (a1 : Int32) (a2 : Int32) (a3 : Int32) (a4 : Int32) (a6 : Int32) (a7 : Int32) (a8 : Int32) (I : am_I) (L : am_L) (hf : fX12_outcomeOf_b114 n d g a1 a2 a3 a4 a6 a7 a8 I L = some (r, I', L')) : am_J x (fun S => S = (some (.int r), KM, RM, I', L')) 114 [some (.ref 0), some (.int a1), some (.int a2), some (.int a3), some (.int a4), none, some (.int a6), some (.int a7), some (.int a8), none, none, none] [] KM RM I L 0 0 := by
  unfold fX12_outcomeOf_b114 at hf
  refine j_iconst (v := (0 : Int32)) hc dX12_outcomeOf_114 ci_0 ?_
  refine j_iload hc dX12_outcomeOf_115 rfl ?_
  refine j_aload_n hc dX12_outcomeOf_117 rfl ?_
  refine j_getR (u := 20) hc dX12_outcomeOf_118 fgM_X12_72_0 rM_0_33 ?_
  refine j_iload_n hc dX12_outcomeOf_121 rfl ?_
  refine j_iaload (n := 2) hc dX12_outcomeOf_122 kM_20 hf (fun v1 hf => ?_)
  refine j_isub hc dX12_outcomeOf_123 ?_
  refine j_callSI (As := [.int (0 : Int32), .int (a4 - v1)]) hc dX12_outcomeOf_124 kw_1882 mJ9_max_7cf53  rfl (by omega) (Nat.le_of_ble_eq_true rfl) (Nat.le_of_ble_eq_true rfl) ⟨Nat.le_refl _, Nat.le_refl _⟩ hf (fun v I' L' h => qJ9_max_7cf53 x.2.1 n d (0 : Int32) (a4 - v1) I L v I' L' h) (fun v2 I2 L2 hf => ?_)
  refine j_istore hc dX12_outcomeOf_127 (Nat.le_of_ble_eq_true rfl) hf (fun v3 hf => ?_)
  refine j_iload hc dX12_outcomeOf_129 rfl ?_
  refine j_if_ne (tgt := 138) hc dX12_outcomeOf_131 rfl hf (fun hf => ?_) (fun hf => ?_)
  · refine j_aload_n hc dX12_outcomeOf_138 rfl ?_
    refine j_iconst (v := (1 : Int32)) hc dX12_outcomeOf_139 ci_1 ?_
    refine j_iload_n hc dX12_outcomeOf_140 rfl ?_
    refine j_isub hc dX12_outcomeOf_141 ?_
    refine j_iload hc dX12_outcomeOf_142 rfl ?_
    refine j_aload_n hc dX12_outcomeOf_144 rfl ?_
    refine j_iload hc dX12_outcomeOf_145 rfl ?_
    refine j_callVI (t := 0) (As := [.int v3]) hc dX12_outcomeOf_147 kw_1760 mX12_restAt kM_0 clX12 rfl (by omega) (Nat.le_of_ble_eq_true rfl) (Nat.le_of_ble_eq_true rfl) ⟨Nat.le_refl _, Nat.le_refl _⟩ hf (fun v I' L' h => qX12_restAt x.2.1 n d v3 I2 L2 v I' L' h) (fun v4 I4 L4 hf => ?_)
    refine j_iload_n hc dX12_outcomeOf_150 rfl ?_
    refine j_iload_n hc dX12_outcomeOf_151 rfl ?_
    refine j_iconst (v := (1 : Int32)) hc dX12_outcomeOf_152 ci_1 ?_
    refine j_isub hc dX12_outcomeOf_153 ?_
    refine j_callVI (t := 0) (As := [.int ((1 : Int32) - a1), .int v3, .int v4, .int a2, .int (a3 - (1 : Int32))]) hc dX12_outcomeOf_154 kw_1930 mX12_outcomeOf kM_0 clX12 rfl (by omega) (Nat.le_of_ble_eq_true rfl) (Nat.le_of_ble_eq_true rfl) ⟨Nat.le_refl _, Nat.le_refl _⟩ hf (fun v I' L' h => (hg 0 _ _ _ _ _ _ _ _ _ _ h) rfl) (fun v5 I5 L5 hf => ?_)
    refine j_callSI (As := [.int v5]) hc dX12_outcomeOf_157 kw_1937 mX12_turned  rfl (by omega) (Nat.le_of_ble_eq_true rfl) (Nat.le_of_ble_eq_true rfl) ⟨Nat.le_refl _, Nat.le_refl _⟩ hf (fun v I' L' h => qX12_turned x.2.1 n d v5 I5 L5 v I' L' h) (fun v6 I6 L6 hf => ?_)
    exact j_sub (tX12_outcomeOf_b160 n d g hg hc _ _ _ _ _ _ hf) (And.intro rfl (And.intro rfl (And.intro rfl (And.intro rfl (trivial)))))
  · refine j_iconst (v := (1 : Int32)) hc dX12_outcomeOf_134 ci_1 ?_
    refine j_goto (tgt := 160) hc dX12_outcomeOf_135 rfl ?_
    exact j_sub (tX12_outcomeOf_b160 n d g hg hc _ _ _ _ _ _ hf) (And.intro rfl (And.intro rfl (And.intro rfl (And.intro rfl (trivial)))))

set_option maxRecDepth 100000 in
def fX12_outcomeOf_b63 (n d : Nat) (g : Nat → Int32 → Int32 → Int32 → Int32 → Int32 → am_I → am_L → Option (Int32 × am_I × am_L)) (s0 : Int32) (a1 : Int32) (a2 : Int32) (a3 : Int32) (a4 : Int32) (a5 : Int32) (a6 : Int32) (I : am_I) (L : am_L) : Option (Int32 × am_I × am_L) :=
  am_lt s0 (fun v1 => am_lt (am_up I 0 34 (0 : Int32)) (fun I2 => am_lt (0 : Int32) (fun v3 => if a3 ≤ 0 then
    (fX12_outcomeOf_b179 n d g a6 v1 v3 I2 L)
    else
    (am_b3 (g 0 ((1 : Int32) - a1) a4 a5 a2 (a3 - (1 : Int32)) I2 L) (fun v4 I4 L4 => am_b3 (fX12_turned n d v4 I4 L4) (fun v5 I5 L5 => am_lt v5 (fun v6 => am_b3 (fX12_isBetter n d v6 v1 I5 L5) (fun v7 I7 L7 => if v7 = 0 then
      (fX12_outcomeOf_b114 n d g a1 a2 a3 a4 a6 v1 v3 I7 L7)
      else
      (am_lt v6 (fun v8 => am_lt (1 : Int32) (fun v9 => fX12_outcomeOf_b114 n d g a1 a2 a3 a4 a6 v8 v9 I7 L7)))))))))))

set_option maxRecDepth 100000 in
set_option maxHeartbeats 4000000 in
theorem tX12_outcomeOf_b63 {x : am_X} (n d : Nat) (g : Nat → Int32 → Int32 → Int32 → Int32 → Int32 → am_I → am_L → Option (Int32 × am_I × am_L)) (hg : ∀ (w : Nat) (e1 e2 e3 e4 e5 : Int32) (I : am_I) (L : am_L) (v : Int32) (I' : am_I) (L' : am_L), g w e1 e2 e3 e4 e5 I L = some (v, I', L') → (w = 0 → am_C x.2.1 yX12_outcomeOf cX12_outcomeOf 12 (some .int) (d + 2) [.ref 0, .int e1, .int e2, .int e3, .int e4, .int e5] KM RM I L (some (.int v)) I' L')) (hc : am_ok x cX12_outcomeOf yX12_outcomeOf 12 (some .int) (d + 3) 0 0) {r : Int32} {I' : am_I} {L' : am_L} (s0 : Int32) (a1 : Int32) (a2 : Int32) (a3 : Int32) (a4 : Int32) (a5 : Int32) (a6 : Int32) (I : am_I) (L : am_L) (hf : fX12_outcomeOf_b63 n d g s0 a1 a2 a3 a4 a5 a6 I L = some (r, I', L')) : am_J x (fun S => S = (some (.int r), KM, RM, I', L')) 63 [some (.ref 0), some (.int a1), some (.int a2), some (.int a3), some (.int a4), some (.int a5), some (.int a6), none, none, none, none, none] [.int s0] KM RM I L 0 0 := by
  unfold fX12_outcomeOf_b63 at hf
  refine j_istore hc dX12_outcomeOf_63 (Nat.le_of_ble_eq_true rfl) hf (fun v1 hf => ?_)
  refine j_aload_n hc dX12_outcomeOf_65 rfl ?_
  refine j_iconst (v := (0 : Int32)) hc dX12_outcomeOf_66 ci_0 ?_
  refine j_putI hc dX12_outcomeOf_67 fpM_X12_366_0 rfl rfl hf (fun I2 hf => ?_)
  refine j_iconst (v := (0 : Int32)) hc dX12_outcomeOf_70 ci_0 ?_
  refine j_istore hc dX12_outcomeOf_71 (Nat.le_of_ble_eq_true rfl) hf (fun v3 hf => ?_)
  refine j_iload_n hc dX12_outcomeOf_73 rfl ?_
  refine j_if_le (tgt := 179) hc dX12_outcomeOf_74 rfl hf (fun hf => ?_) (fun hf => ?_)
  · exact j_sub (tX12_outcomeOf_b179 n d g hg hc _ _ _ _ _ hf) (And.intro rfl (And.intro rfl (And.intro rfl (And.intro rfl (trivial)))))
  · refine j_aload_n hc dX12_outcomeOf_77 rfl ?_
    refine j_iconst (v := (1 : Int32)) hc dX12_outcomeOf_78 ci_1 ?_
    refine j_iload_n hc dX12_outcomeOf_79 rfl ?_
    refine j_isub hc dX12_outcomeOf_80 ?_
    refine j_iload hc dX12_outcomeOf_81 rfl ?_
    refine j_iload hc dX12_outcomeOf_83 rfl ?_
    refine j_iload_n hc dX12_outcomeOf_85 rfl ?_
    refine j_iload_n hc dX12_outcomeOf_86 rfl ?_
    refine j_iconst (v := (1 : Int32)) hc dX12_outcomeOf_87 ci_1 ?_
    refine j_isub hc dX12_outcomeOf_88 ?_
    refine j_callVI (t := 0) (As := [.int ((1 : Int32) - a1), .int a4, .int a5, .int a2, .int (a3 - (1 : Int32))]) hc dX12_outcomeOf_89 kw_1930 mX12_outcomeOf kM_0 clX12 rfl (by omega) (Nat.le_of_ble_eq_true rfl) (Nat.le_of_ble_eq_true rfl) ⟨Nat.le_refl _, Nat.le_refl _⟩ hf (fun v I' L' h => (hg 0 _ _ _ _ _ _ _ _ _ _ h) rfl) (fun v4 I4 L4 hf => ?_)
    refine j_callSI (As := [.int v4]) hc dX12_outcomeOf_92 kw_1937 mX12_turned  rfl (by omega) (Nat.le_of_ble_eq_true rfl) (Nat.le_of_ble_eq_true rfl) ⟨Nat.le_refl _, Nat.le_refl _⟩ hf (fun v I' L' h => qX12_turned x.2.1 n d v4 I4 L4 v I' L' h) (fun v5 I5 L5 hf => ?_)
    refine j_istore hc dX12_outcomeOf_95 (Nat.le_of_ble_eq_true rfl) hf (fun v6 hf => ?_)
    refine j_iload hc dX12_outcomeOf_97 rfl ?_
    refine j_iload hc dX12_outcomeOf_99 rfl ?_
    refine j_callSI (As := [.int v6, .int v1]) hc dX12_outcomeOf_101 kw_1940 mX12_isBetter  rfl (by omega) (Nat.le_of_ble_eq_true rfl) (Nat.le_of_ble_eq_true rfl) ⟨Nat.le_refl _, Nat.le_refl _⟩ hf (fun v I' L' h => qX12_isBetter x.2.1 n d v6 v1 I5 L5 v I' L' h) (fun v7 I7 L7 hf => ?_)
    refine j_if_eq (tgt := 114) hc dX12_outcomeOf_104 rfl hf (fun hf => ?_) (fun hf => ?_)
    · exact j_sub (tX12_outcomeOf_b114 n d g hg hc _ _ _ _ _ _ _ _ _ hf) (And.intro rfl (And.intro rfl (And.intro rfl (And.intro rfl (And.intro rfl (And.intro rfl (And.intro rfl (And.intro rfl (trivial)))))))))
    · refine j_iload hc dX12_outcomeOf_107 rfl ?_
      refine j_istore hc dX12_outcomeOf_109 (Nat.le_of_ble_eq_true rfl) hf (fun v8 hf => ?_)
      refine j_iconst (v := (1 : Int32)) hc dX12_outcomeOf_111 ci_1 ?_
      refine j_istore hc dX12_outcomeOf_112 (Nat.le_of_ble_eq_true rfl) hf (fun v9 hf => ?_)
      exact j_sub (tX12_outcomeOf_b114 n d g hg hc _ _ _ _ _ _ _ _ _ hf) (And.intro rfl (And.intro rfl (And.intro rfl (And.intro rfl (And.intro rfl (And.intro rfl (And.intro rfl (And.intro rfl (trivial)))))))))

set_option maxRecDepth 100000 in
def fX12_outcomeOf_g (n d : Nat) (g : Nat → Int32 → Int32 → Int32 → Int32 → Int32 → am_I → am_L → Option (Int32 × am_I × am_L)) (a1 : Int32) (a2 : Int32) (a3 : Int32) (a4 : Int32) (a5 : Int32) (I : am_I) (L : am_L) : Option (Int32 × am_I × am_L) :=
  am_b3 (fX12_place n d a1 a2 a3 a4 a5 I L) (fun v1 I1 L1 => am_lt v1 (fun v2 => am_ck v2 88200 (am_lt (I1 19 (v2).toNatClampNeg) (fun v3 => if v3 = 0 then
    (if a2 = (1 : Int32) then
      (fX12_outcomeOf_b63 n d g (-1 : Int32) a1 a2 a3 a4 a5 v2 I1 L1)
      else
      (am_b3 (fX12_restAt n d (a2 - (1 : Int32)) I1 L1) (fun v4 I4 L4 => am_b3 (g 0 ((1 : Int32) - a1) a4 a5 (a2 - (1 : Int32)) v4 I4 L4) (fun v5 I5 L5 => am_b3 (fX12_turned n d v5 I5 L5) (fun v6 I6 L6 => fX12_outcomeOf_b63 n d g v6 a1 a2 a3 a4 a5 v2 I6 L6)))))
    else
    (am_ck v2 88200 (am_lt (I1 19 (v2).toNatClampNeg) (fun v7 => some (v7, I1, L1))))))))

set_option maxRecDepth 100000 in
set_option maxHeartbeats 4000000 in
theorem tX12_outcomeOf_g {x : am_X} (n d : Nat) (g : Nat → Int32 → Int32 → Int32 → Int32 → Int32 → am_I → am_L → Option (Int32 × am_I × am_L)) (hg : ∀ (w : Nat) (e1 e2 e3 e4 e5 : Int32) (I : am_I) (L : am_L) (v : Int32) (I' : am_I) (L' : am_L), g w e1 e2 e3 e4 e5 I L = some (v, I', L') → (w = 0 → am_C x.2.1 yX12_outcomeOf cX12_outcomeOf 12 (some .int) (d + 2) [.ref 0, .int e1, .int e2, .int e3, .int e4, .int e5] KM RM I L (some (.int v)) I' L')) (hc : am_ok x cX12_outcomeOf yX12_outcomeOf 12 (some .int) (d + 3) 0 0) {r : Int32} {I' : am_I} {L' : am_L} (a1 : Int32) (a2 : Int32) (a3 : Int32) (a4 : Int32) (a5 : Int32) (I : am_I) (L : am_L) (hf : fX12_outcomeOf_g n d g a1 a2 a3 a4 a5 I L = some (r, I', L')) : am_J x (fun S => S = (some (.int r), KM, RM, I', L')) 0 [some (.ref 0), some (.int a1), some (.int a2), some (.int a3), some (.int a4), some (.int a5), none, none, none, none, none, none] [] KM RM I L 0 0 := by
  unfold fX12_outcomeOf_g at hf
  refine j_iload_n hc dX12_outcomeOf_0 rfl ?_
  refine j_iload_n hc dX12_outcomeOf_1 rfl ?_
  refine j_iload_n hc dX12_outcomeOf_2 rfl ?_
  refine j_iload hc dX12_outcomeOf_3 rfl ?_
  refine j_iload hc dX12_outcomeOf_5 rfl ?_
  refine j_callSI (As := [.int a1, .int a2, .int a3, .int a4, .int a5]) hc dX12_outcomeOf_7 kw_1934 mX12_place  rfl (by omega) (Nat.le_of_ble_eq_true rfl) (Nat.le_of_ble_eq_true rfl) ⟨Nat.le_refl _, Nat.le_refl _⟩ hf (fun v I' L' h => qX12_place x.2.1 n d a1 a2 a3 a4 a5 I L v I' L' h) (fun v1 I1 L1 hf => ?_)
  refine j_istore hc dX12_outcomeOf_10 (Nat.le_of_ble_eq_true rfl) hf (fun v2 hf => ?_)
  refine j_aload_n hc dX12_outcomeOf_12 rfl ?_
  refine j_getR (u := 19) hc dX12_outcomeOf_13 fgM_X12_69_0 rM_0_32 ?_
  refine j_iload hc dX12_outcomeOf_16 rfl ?_
  refine j_iaload (n := 88200) hc dX12_outcomeOf_18 kM_19 hf (fun v3 hf => ?_)
  refine j_if_eq (tgt := 30) hc dX12_outcomeOf_19 rfl hf (fun hf => ?_) (fun hf => ?_)
  · refine j_iload_n hc dX12_outcomeOf_30 rfl ?_
    refine j_iconst (v := (1 : Int32)) hc dX12_outcomeOf_31 ci_1 ?_
    refine j_icmp_ne (tgt := 39) hc dX12_outcomeOf_32 rfl hf (fun hf => ?_) (fun hf => ?_)
    · refine j_aload_n hc dX12_outcomeOf_39 rfl ?_
      refine j_iconst (v := (1 : Int32)) hc dX12_outcomeOf_40 ci_1 ?_
      refine j_iload_n hc dX12_outcomeOf_41 rfl ?_
      refine j_isub hc dX12_outcomeOf_42 ?_
      refine j_iload hc dX12_outcomeOf_43 rfl ?_
      refine j_iload hc dX12_outcomeOf_45 rfl ?_
      refine j_iload_n hc dX12_outcomeOf_47 rfl ?_
      refine j_iconst (v := (1 : Int32)) hc dX12_outcomeOf_48 ci_1 ?_
      refine j_isub hc dX12_outcomeOf_49 ?_
      refine j_aload_n hc dX12_outcomeOf_50 rfl ?_
      refine j_iload_n hc dX12_outcomeOf_51 rfl ?_
      refine j_iconst (v := (1 : Int32)) hc dX12_outcomeOf_52 ci_1 ?_
      refine j_isub hc dX12_outcomeOf_53 ?_
      refine j_callVI (t := 0) (As := [.int (a2 - (1 : Int32))]) hc dX12_outcomeOf_54 kw_1760 mX12_restAt kM_0 clX12 rfl (by omega) (Nat.le_of_ble_eq_true rfl) (Nat.le_of_ble_eq_true rfl) ⟨Nat.le_refl _, Nat.le_refl _⟩ hf (fun v I' L' h => qX12_restAt x.2.1 n d (a2 - (1 : Int32)) I1 L1 v I' L' h) (fun v4 I4 L4 hf => ?_)
      refine j_callVI (t := 0) (As := [.int ((1 : Int32) - a1), .int a4, .int a5, .int (a2 - (1 : Int32)), .int v4]) hc dX12_outcomeOf_57 kw_1930 mX12_outcomeOf kM_0 clX12 rfl (by omega) (Nat.le_of_ble_eq_true rfl) (Nat.le_of_ble_eq_true rfl) ⟨Nat.le_refl _, Nat.le_refl _⟩ hf (fun v I' L' h => (hg 0 _ _ _ _ _ _ _ _ _ _ h) rfl) (fun v5 I5 L5 hf => ?_)
      refine j_callSI (As := [.int v5]) hc dX12_outcomeOf_60 kw_1937 mX12_turned  rfl (by omega) (Nat.le_of_ble_eq_true rfl) (Nat.le_of_ble_eq_true rfl) ⟨Nat.le_refl _, Nat.le_refl _⟩ hf (fun v I' L' h => qX12_turned x.2.1 n d v5 I5 L5 v I' L' h) (fun v6 I6 L6 hf => ?_)
      exact j_sub (tX12_outcomeOf_b63 n d g hg hc _ _ _ _ _ _ _ _ _ hf) (And.intro rfl (And.intro rfl (And.intro rfl (And.intro rfl (And.intro rfl (And.intro rfl (And.intro rfl (trivial))))))))
    · refine j_iconst (v := (-1 : Int32)) hc dX12_outcomeOf_35 ci_m1 ?_
      refine j_goto (tgt := 63) hc dX12_outcomeOf_36 rfl ?_
      exact j_sub (tX12_outcomeOf_b63 n d g hg hc _ _ _ _ _ _ _ _ _ hf) (And.intro rfl (And.intro rfl (And.intro rfl (And.intro rfl (And.intro rfl (And.intro rfl (And.intro rfl (trivial))))))))
  · refine j_aload_n hc dX12_outcomeOf_22 rfl ?_
    refine j_getR (u := 19) hc dX12_outcomeOf_23 fgM_X12_69_0 rM_0_32 ?_
    refine j_iload hc dX12_outcomeOf_26 rfl ?_
    refine j_iaload (n := 88200) hc dX12_outcomeOf_28 kM_19 hf (fun v7 hf => ?_)
    exact j_ireturn hc dX12_outcomeOf_29 rfl rfl hf

def gX12_outcomeOf (n : Nat) : Nat → Nat → Int32 → Int32 → Int32 → Int32 → Int32 → am_I → am_L → Option (Int32 × am_I × am_L)
  | 0 => fun _ _ _ _ _ _ _ _ => none
  | d + 1 => fun w e1 e2 e3 e4 e5 I L => match w with
    | 0 => fX12_outcomeOf_g n d (gX12_outcomeOf n d) e1 e2 e3 e4 e5 I L
    | _ => none
set_option maxRecDepth 100000 in
set_option maxHeartbeats 4000000 in
theorem cgX12_outcomeOf (l : Launch) (n d : Nat) : ∀ (w : Nat) (e1 e2 e3 e4 e5 : Int32) (I : am_I) (L : am_L) (v : Int32) (I' : am_I) (L' : am_L), gX12_outcomeOf n d w e1 e2 e3 e4 e5 I L = some (v, I', L') → (w = 0 → am_C l yX12_outcomeOf cX12_outcomeOf 12 (some .int) (d + 2) [.ref 0, .int e1, .int e2, .int e3, .int e4, .int e5] KM RM I L (some (.int v)) I' L') := by
  induction d with
  | zero => intro w e1 e2 e3 e4 e5 I L v I' L' hf; exact (Option.some_ne_none _ hf.symm).elim
  | succ d ih =>
    intro w e1 e2 e3 e4 e5 I L v I' L' hf
    refine ?_
    exact fun hw => by
          subst hw
          exact am_intro (plainFor_of_name plX12) (fun _ _ => trivial) (Nat.le_of_ble_eq_true rfl) (fun x hl hc => by subst hl; exact j_sub (tX12_outcomeOf_g n d (gX12_outcomeOf n d) ih hc _ _ _ _ _ _ _ hf) (And.intro rfl (And.intro rfl (And.intro rfl (And.intro rfl (And.intro rfl (And.intro rfl (trivial))))))))
def fX12_outcomeOf (n d : Nat) (a1 : Int32) (a2 : Int32) (a3 : Int32) (a4 : Int32) (a5 : Int32) (I : am_I) (L : am_L) : Option (Int32 × am_I × am_L) := gX12_outcomeOf n d 0 a1 a2 a3 a4 a5 I L
theorem qX12_outcomeOf (l : Launch) (n d : Nat) (a1 : Int32) (a2 : Int32) (a3 : Int32) (a4 : Int32) (a5 : Int32) (I : am_I) (L : am_L) (r : Int32) (I' : am_I) (L' : am_L) (hf : fX12_outcomeOf n d a1 a2 a3 a4 a5 I L = some (r, I', L')) : am_C l yX12_outcomeOf cX12_outcomeOf 12 (some .int) (d + 2) [.ref 0, .int a1, .int a2, .int a3, .int a4, .int a5] KM RM I L (some (.int r)) I' L' := by
  exact (cgX12_outcomeOf l n d _ _ _ _ _ _ _ _ _ _ _ hf) rfl
