set_option maxRecDepth 100000 in
def fX5_whoOf (n d : Nat) (a0 : Int32) (I : am_I) (L : am_L) : Option (Int32 × am_I × am_L) :=
  (if (10 : Int32) = 0 then none else (if (10 : Int32) = 0 then none else some ((((a0 / (10 : Int32)) - (a0 / (10 : Int32)) / (10 : Int32) * (10 : Int32)) - (1 : Int32)), I, L)))

set_option maxRecDepth 100000 in
set_option maxHeartbeats 4000000 in
theorem tX5_whoOf {x : am_X} {al : Bool} (n d : Nat) (hc : am_ok x cX5_whoOf yX5_whoOf 1 (some .int) (d + 1) 0 0) {r : Int32} {I' : am_I} {L' : am_L} (a0 : Int32) (I : am_I) (L : am_L) (hf : fX5_whoOf n d a0 I L = some (r, I', L')) : am_J x (fun S => S = (some (.int r), (KC al), (RC al), I', L')) 0 [some (.int a0)] [] (KC al) (RC al) I L 0 0 := by
  unfold fX5_whoOf at hf
  refine j_iload_n hc dX5_whoOf_0 rfl ?_
  refine j_bipush (v := (10 : Int32)) hc dX5_whoOf_1 cb_10 ?_
  refine j_idiv hc dX5_whoOf_3 hf (fun hf => ?_)
  refine j_bipush (v := (10 : Int32)) hc dX5_whoOf_4 cb_10 ?_
  refine j_irem hc dX5_whoOf_6 hf (fun hf => ?_)
  refine j_iconst (v := (1 : Int32)) hc dX5_whoOf_7 ci_1 ?_
  refine j_isub hc dX5_whoOf_8 ?_
  exact j_ireturn hc dX5_whoOf_9 rfl rfl hf

set_option maxRecDepth 100000 in
theorem qX5_whoOf (l : Launch) {al : Bool} (n d : Nat) (a0 : Int32) (I : am_I) (L : am_L) (r : Int32) (I' : am_I) (L' : am_L) (hf : fX5_whoOf n d a0 I L = some (r, I', L')) : am_C l yX5_whoOf cX5_whoOf 1 (some .int) (d + 1) [.int a0] (KC al) (RC al) I L (some (.int r)) I' L' := by
  exact am_intro (plainFor_of_name plX5) (fun _ _ => trivial) (Nat.le_of_ble_eq_true rfl) (fun x hl hc => by subst hl; exact j_sub (tX5_whoOf n d hc _ _ _ hf) (And.intro rfl (trivial)))
set_option maxRecDepth 100000 in
def fX5_whomOf (n d : Nat) (a0 : Int32) (I : am_I) (L : am_L) : Option (Int32 × am_I × am_L) :=
  (if (10 : Int32) = 0 then none else some (((a0 - a0 / (10 : Int32) * (10 : Int32)) - (1 : Int32)), I, L))

set_option maxRecDepth 100000 in
set_option maxHeartbeats 4000000 in
theorem tX5_whomOf {x : am_X} {al : Bool} (n d : Nat) (hc : am_ok x cX5_whomOf yX5_whomOf 1 (some .int) (d + 1) 0 0) {r : Int32} {I' : am_I} {L' : am_L} (a0 : Int32) (I : am_I) (L : am_L) (hf : fX5_whomOf n d a0 I L = some (r, I', L')) : am_J x (fun S => S = (some (.int r), (KC al), (RC al), I', L')) 0 [some (.int a0)] [] (KC al) (RC al) I L 0 0 := by
  unfold fX5_whomOf at hf
  refine j_iload_n hc dX5_whomOf_0 rfl ?_
  refine j_bipush (v := (10 : Int32)) hc dX5_whomOf_1 cb_10 ?_
  refine j_irem hc dX5_whomOf_3 hf (fun hf => ?_)
  refine j_iconst (v := (1 : Int32)) hc dX5_whomOf_4 ci_1 ?_
  refine j_isub hc dX5_whomOf_5 ?_
  exact j_ireturn hc dX5_whomOf_6 rfl rfl hf

set_option maxRecDepth 100000 in
theorem qX5_whomOf (l : Launch) {al : Bool} (n d : Nat) (a0 : Int32) (I : am_I) (L : am_L) (r : Int32) (I' : am_I) (L' : am_L) (hf : fX5_whomOf n d a0 I L = some (r, I', L')) : am_C l yX5_whomOf cX5_whomOf 1 (some .int) (d + 1) [.int a0] (KC al) (RC al) I L (some (.int r)) I' L' := by
  exact am_intro (plainFor_of_name plX5) (fun _ _ => trivial) (Nat.le_of_ble_eq_true rfl) (fun x hl hc => by subst hl; exact j_sub (tX5_whomOf n d hc _ _ _ hf) (And.intro rfl (trivial)))
set_option maxRecDepth 100000 in
def fX11_log_b15 (n d : Nat) (I : am_I) (L : am_L) : Option (Int32 × am_I × am_L) :=
  some ((-1000000 : Int32), I, L)

set_option maxRecDepth 100000 in
set_option maxHeartbeats 4000000 in
theorem tX11_log_b15 {x : am_X} {al : Bool} (n d : Nat) (hc : am_ok x cX11_log yX11_log 4 (some .int) (d + 3) 0 0) {r : Int32} {I' : am_I} {L' : am_L} (I : am_I) (L : am_L) (hf : fX11_log_b15 n d I L = some (r, I', L')) : am_J x (fun S => S = (some (.int r), (KC al), (RC al), I', L')) 15 [none, none, none, none] [] (KC al) (RC al) I L 0 0 := by
  unfold fX11_log_b15 at hf
  refine j_ldc (v := (-1000000 : Int32)) hc dX11_log_15 kw_890 ?_
  exact j_ireturn hc dX11_log_17 rfl rfl hf

set_option maxRecDepth 100000 in
def fX11_log (n d : Nat) (a1 : Int32) (a2 : Int32) (I : am_I) (L : am_L) : Option (Int32 × am_I × am_L) :=
  if a1 < 0 then
    (fX11_log_b15 n d I L)
    else
    (am_b3 (fX5_length n d I L) (fun v1 I1 L1 => if a1 < v1 then
      (am_b3 (fX5_line n d a1 I1 L1) (fun v2 I2 L2 => am_lt v2 (fun v3 => am_sw a2 0 [am_b3 (fX5_whatOf n d v3 I2 L2) (fun v4 I4 L4 => some (v4, I4, L4)), am_b3 (fX5_whoOf n d v3 I2 L2) (fun v5 I5 L5 => some (v5, I5, L5)), am_b3 (fX5_whomOf n d v3 I2 L2) (fun v6 I6 L6 => some (v6, I6, L6))] (some ((-1000000 : Int32), I2, L2)))))
      else
      (fX11_log_b15 n d I1 L1)))

set_option maxRecDepth 100000 in
set_option maxHeartbeats 4000000 in
theorem tX11_log {x : am_X} {al : Bool} (n d : Nat) (hc : am_ok x cX11_log yX11_log 4 (some .int) (d + 3) 0 0) {r : Int32} {I' : am_I} {L' : am_L} (a1 : Int32) (a2 : Int32) (I : am_I) (L : am_L) (hf : fX11_log n d a1 a2 I L = some (r, I', L')) : am_J x (fun S => S = (some (.int r), (KC al), (RC al), I', L')) 0 [some (.ref 0), some (.int a1), some (.int a2), none] [] (KC al) (RC al) I L 0 0 := by
  unfold fX11_log at hf
  refine j_iload_n hc dX11_log_0 rfl ?_
  refine j_if_lt (tgt := 15) hc dX11_log_1 rfl hf (fun hf => ?_) (fun hf => ?_)
  · exact j_sub (tX11_log_b15 n d hc _ _ hf) (trivial)
  · refine j_iload_n hc dX11_log_4 rfl ?_
    refine j_aload_n hc dX11_log_5 rfl ?_
    refine j_getR (u := 42) hc dX11_log_6 (fgC_X11_63_0 _) (rC_0_7 _) ?_
    refine j_callVI (t := 42) (As := []) hc dX11_log_9 kw_885 mX5_length (kC_42 _) clX5 rfl (by omega) (Nat.le_of_ble_eq_true rfl) (Nat.le_of_ble_eq_true rfl) ⟨Nat.le_refl _, Nat.le_refl _⟩ hf (fun v I' L' h => qX5_length x.2.1 n d I L v I' L' h) (fun v1 I1 L1 hf => ?_)
    refine j_icmp_lt (tgt := 18) hc dX11_log_12 rfl hf (fun hf => ?_) (fun hf => ?_)
    · refine j_aload_n hc dX11_log_18 rfl ?_
      refine j_getR (u := 42) hc dX11_log_19 (fgC_X11_63_0 _) (rC_0_7 _) ?_
      refine j_iload_n hc dX11_log_22 rfl ?_
      refine j_callVI (t := 42) (As := [.int a1]) hc dX11_log_23 kw_1039 mX5_line (kC_42 _) clX5 rfl (by omega) (Nat.le_of_ble_eq_true rfl) (Nat.le_of_ble_eq_true rfl) ⟨Nat.le_refl _, Nat.le_refl _⟩ hf (fun v I' L' h => qX5_line x.2.1 n d a1 I1 L1 v I' L' h) (fun v2 I2 L2 hf => ?_)
      refine j_istore_n hc dX11_log_26 (Nat.le_of_ble_eq_true rfl) hf (fun v3 hf => ?_)
      refine j_iload_n hc dX11_log_27 rfl ?_
      refine j_tab (lo := 0) (tgt := 71) hc dX11_log_28 rfl rfl rfl hf (fun hf => ?_) (fun k K off tgt2 hK ho ht hf => ?_) (fun k off ho => ?_)
      · refine j_ldc (v := (-1000000 : Int32)) hc dX11_log_71 kw_890 ?_
        exact j_ireturn hc dX11_log_73 rfl rfl hf
      · match k, hK, ho with
        | 0, hK, ho =>
          cases hK
          have ho : (28 : Int) = off := Option.some.inj ho
          subst ho
          have ht : tgt2 = 56 := by omega
          subst ht
          refine j_iload_n hc dX11_log_56 rfl ?_
          refine j_callSI (As := [.int v3]) hc dX11_log_57 kw_1043 mX5_whatOf  rfl (by omega) (Nat.le_of_ble_eq_true rfl) (Nat.le_of_ble_eq_true rfl) ⟨Nat.le_refl _, Nat.le_refl _⟩ hf (fun v I' L' h => qX5_whatOf x.2.1 n d v3 I2 L2 v I' L' h) (fun v4 I4 L4 hf => ?_)
          exact j_ireturn hc dX11_log_60 rfl rfl hf
        | 1, hK, ho =>
          cases hK
          have ho : (33 : Int) = off := Option.some.inj ho
          subst ho
          have ht : tgt2 = 61 := by omega
          subst ht
          refine j_iload_n hc dX11_log_61 rfl ?_
          refine j_callSI (As := [.int v3]) hc dX11_log_62 kw_1046 mX5_whoOf  rfl (by omega) (Nat.le_of_ble_eq_true rfl) (Nat.le_of_ble_eq_true rfl) ⟨Nat.le_refl _, Nat.le_refl _⟩ hf (fun v I' L' h => qX5_whoOf x.2.1 n d v3 I2 L2 v I' L' h) (fun v5 I5 L5 hf => ?_)
          exact j_ireturn hc dX11_log_65 rfl rfl hf
        | 2, hK, ho =>
          cases hK
          have ho : (38 : Int) = off := Option.some.inj ho
          subst ho
          have ht : tgt2 = 66 := by omega
          subst ht
          refine j_iload_n hc dX11_log_66 rfl ?_
          refine j_callSI (As := [.int v3]) hc dX11_log_67 kw_1049 mX5_whomOf  rfl (by omega) (Nat.le_of_ble_eq_true rfl) (Nat.le_of_ble_eq_true rfl) ⟨Nat.le_refl _, Nat.le_refl _⟩ hf (fun v I' L' h => qX5_whomOf x.2.1 n d v3 I2 L2 v I' L' h) (fun v6 I6 L6 hf => ?_)
          exact j_ireturn hc dX11_log_70 rfl rfl hf
        | k + 3, hK, ho => simp at hK
      · match k, ho with
        | 0, ho => have ho : (28 : Int) = off := Option.some.inj ho; subst ho; exact ⟨56, rfl⟩
        | 1, ho => have ho : (33 : Int) = off := Option.some.inj ho; subst ho; exact ⟨61, rfl⟩
        | 2, ho => have ho : (38 : Int) = off := Option.some.inj ho; subst ho; exact ⟨66, rfl⟩
        | k + 3, ho => simp at ho
    · exact j_sub (tX11_log_b15 n d hc _ _ hf) (trivial)

set_option maxRecDepth 100000 in
theorem qX11_log (l : Launch) {al : Bool} (n d : Nat) (a1 : Int32) (a2 : Int32) (I : am_I) (L : am_L) (r : Int32) (I' : am_I) (L' : am_L) (hf : fX11_log n d a1 a2 I L = some (r, I', L')) : am_C l yX11_log cX11_log 4 (some .int) (d + 3) [.ref 0, .int a1, .int a2] (KC al) (RC al) I L (some (.int r)) I' L' := by
  exact am_intro (plainFor_of_name plX11) (fun _ _ => trivial) (Nat.le_of_ble_eq_true rfl) (fun x hl hc => by subst hl; exact j_sub (tX11_log n d hc _ _ _ _ hf) (And.intro rfl (And.intro rfl (And.intro rfl (trivial)))))
set_option maxRecDepth 100000 in
def fX11_isSideOfWar_b19 (n d : Nat) (I : am_I) (L : am_L) : Option (Int32 × am_I × am_L) :=
  some ((1 : Int32), I, L)

set_option maxRecDepth 100000 in
set_option maxHeartbeats 4000000 in
theorem tX11_isSideOfWar_b19 {x : am_X} {al : Bool} (n d : Nat) (hc : am_ok x cX11_isSideOfWar yX11_isSideOfWar 2 (some .boolean) (d + 1) 0 0) {r : Int32} {I' : am_I} {L' : am_L} (I : am_I) (L : am_L) (hf : fX11_isSideOfWar_b19 n d I L = some (r, I', L')) : am_J x (fun S => S = (some (.int r), (KC al), (RC al), I', L')) 19 [none, none] [] (KC al) (RC al) I L 0 0 := by
  unfold fX11_isSideOfWar_b19 at hf
  refine j_iconst (v := (1 : Int32)) hc dX11_isSideOfWar_19 ci_1 ?_
  refine j_goto (tgt := 24) hc dX11_isSideOfWar_20 rfl ?_
  exact j_zret hc dX11_isSideOfWar_24 rfl rfl (Or.inr rfl) hf

set_option maxRecDepth 100000 in
def fX11_isSideOfWar (n d : Nat) (a1 : Int32) (I : am_I) (L : am_L) : Option (Int32 × am_I × am_L) :=
  if (I 3 0) ≤ 0 then
    (some ((0 : Int32), I, L))
    else
    (if a1 = 0 then
      (fX11_isSideOfWar_b19 n d I L)
      else
      (if a1 = (1 : Int32) then
        (fX11_isSideOfWar_b19 n d I L)
        else
        (some ((0 : Int32), I, L))))

set_option maxRecDepth 100000 in
set_option maxHeartbeats 4000000 in
theorem tX11_isSideOfWar {x : am_X} {al : Bool} (n d : Nat) (hc : am_ok x cX11_isSideOfWar yX11_isSideOfWar 2 (some .boolean) (d + 1) 0 0) {r : Int32} {I' : am_I} {L' : am_L} (a1 : Int32) (I : am_I) (L : am_L) (hf : fX11_isSideOfWar n d a1 I L = some (r, I', L')) : am_J x (fun S => S = (some (.int r), (KC al), (RC al), I', L')) 0 [some (.ref 0), some (.int a1)] [] (KC al) (RC al) I L 0 0 := by
  unfold fX11_isSideOfWar at hf
  refine j_aload_n hc dX11_isSideOfWar_0 rfl ?_
  refine j_getR (u := 3) hc dX11_isSideOfWar_1 (fgC_X11_19_0 _) (rC_0_1 _) ?_
  refine j_getI hc dX11_isSideOfWar_4 (fgC_X11_151_3 _) ?_
  refine j_if_le (tgt := 23) hc dX11_isSideOfWar_7 rfl hf (fun hf => ?_) (fun hf => ?_)
  · refine j_iconst (v := (0 : Int32)) hc dX11_isSideOfWar_23 ci_0 ?_
    exact j_zret hc dX11_isSideOfWar_24 rfl rfl (Or.inl rfl) hf
  · refine j_iload_n hc dX11_isSideOfWar_10 rfl ?_
    refine j_if_eq (tgt := 19) hc dX11_isSideOfWar_11 rfl hf (fun hf => ?_) (fun hf => ?_)
    · exact j_sub (tX11_isSideOfWar_b19 n d hc _ _ hf) (trivial)
    · refine j_iload_n hc dX11_isSideOfWar_14 rfl ?_
      refine j_iconst (v := (1 : Int32)) hc dX11_isSideOfWar_15 ci_1 ?_
      refine j_icmp_ne (tgt := 23) hc dX11_isSideOfWar_16 rfl hf (fun hf => ?_) (fun hf => ?_)
      · refine j_iconst (v := (0 : Int32)) hc dX11_isSideOfWar_23 ci_0 ?_
        exact j_zret hc dX11_isSideOfWar_24 rfl rfl (Or.inl rfl) hf
      · exact j_sub (tX11_isSideOfWar_b19 n d hc _ _ hf) (trivial)

set_option maxRecDepth 100000 in
theorem qX11_isSideOfWar (l : Launch) {al : Bool} (n d : Nat) (a1 : Int32) (I : am_I) (L : am_L) (r : Int32) (I' : am_I) (L' : am_L) (hf : fX11_isSideOfWar n d a1 I L = some (r, I', L')) : am_C l yX11_isSideOfWar cX11_isSideOfWar 2 (some .boolean) (d + 1) [.ref 0, .int a1] (KC al) (RC al) I L (some (.int r)) I' L' := by
  exact am_intro (plainFor_of_name plX11) (fun _ _ => trivial) (Nat.le_of_ble_eq_true rfl) (fun x hl hc => by subst hl; exact j_sub (tX11_isSideOfWar n d hc _ _ _ hf) (And.intro rfl (And.intro rfl (trivial))))
set_option maxRecDepth 100000 in
def fX1_broughtHomeBy_b97 (n d : Nat) (k4 : Int32 → Int32 → Int32 → am_I → am_L → Option (Int32 × am_I × am_L)) (a1 : Int32) (a2 : Int32) (a3 : Int32) (I : am_I) (L : am_L) : Option (Int32 × am_I × am_L) :=
  am_lt (a3 + (1 : Int32)) (fun v1 => k4 a1 a2 v1 I L)

set_option maxRecDepth 100000 in
set_option maxHeartbeats 4000000 in
theorem tX1_broughtHomeBy_b97 {x : am_X} {al : Bool} (n d : Nat) (hc : am_ok x cX1_broughtHomeBy yX1_broughtHomeBy 5 (some .int) (d + 2) 0 0) {r : Int32} {I' : am_I} {L' : am_L} (k4 : Int32 → Int32 → Int32 → am_I → am_L → Option (Int32 × am_I × am_L)) (hk4 : ∀ (a1 : Int32) (a2 : Int32) (a3 : Int32) (I : am_I) (L : am_L), k4 a1 a2 a3 I L = some (r, I', L') → am_J x (fun S => S = (some (.int r), (KC al), (RC al), I', L')) 4 [some (.ref 58), some (.int a1), some (.int a2), some (.int a3), none] [] (KC al) (RC al) I L 0 0) (a1 : Int32) (a2 : Int32) (a3 : Int32) (I : am_I) (L : am_L) (hf : fX1_broughtHomeBy_b97 n d k4 a1 a2 a3 I L = some (r, I', L')) : am_J x (fun S => S = (some (.int r), (KC al), (RC al), I', L')) 97 [some (.ref 58), some (.int a1), some (.int a2), some (.int a3), none] [] (KC al) (RC al) I L 0 0 := by
  unfold fX1_broughtHomeBy_b97 at hf
  refine j_iinc (w := (1 : Int32)) hc dX1_broughtHomeBy_97 rfl ci_1 (Nat.le_of_ble_eq_true rfl) hf (fun v1 hf => ?_)
  refine j_goto (tgt := 4) hc dX1_broughtHomeBy_100 rfl ?_
  exact j_sub (hk4 _ _ _ _ _ hf) (And.intro rfl (And.intro rfl (And.intro rfl (And.intro rfl (trivial)))))

set_option maxRecDepth 100000 in
def fX1_broughtHomeBy_b63 (n d : Nat) (k4 : Int32 → Int32 → Int32 → am_I → am_L → Option (Int32 × am_I × am_L)) (s0 : Int32) (a1 : Int32) (a2 : Int32) (a3 : Int32) (I : am_I) (L : am_L) : Option (Int32 × am_I × am_L) :=
  am_lt s0 (fun v1 => if v1 = 0 then
    (fX1_broughtHomeBy_b97 n d k4 a1 a2 a3 I L)
    else
    (am_ck a3 8 (am_lt (I 40 (a3).toNatClampNeg) (fun v2 => am_ck a1 8 (am_lt (I 6 (a1).toNatClampNeg) (fun v3 => if v3 < v2 then
      (fX1_broughtHomeBy_b97 n d k4 a1 a2 a3 I L)
      else
      (am_lt (a2 ||| ((1 : Int32) <<< (a3 &&& 31))) (fun v4 => fX1_broughtHomeBy_b97 n d k4 a1 v4 a3 I L))))))))

set_option maxRecDepth 100000 in
set_option maxHeartbeats 4000000 in
theorem tX1_broughtHomeBy_b63 {x : am_X} {al : Bool} (n d : Nat) (hc : am_ok x cX1_broughtHomeBy yX1_broughtHomeBy 5 (some .int) (d + 2) 0 0) {r : Int32} {I' : am_I} {L' : am_L} (k4 : Int32 → Int32 → Int32 → am_I → am_L → Option (Int32 × am_I × am_L)) (hk4 : ∀ (a1 : Int32) (a2 : Int32) (a3 : Int32) (I : am_I) (L : am_L), k4 a1 a2 a3 I L = some (r, I', L') → am_J x (fun S => S = (some (.int r), (KC al), (RC al), I', L')) 4 [some (.ref 58), some (.int a1), some (.int a2), some (.int a3), none] [] (KC al) (RC al) I L 0 0) (s0 : Int32) (a1 : Int32) (a2 : Int32) (a3 : Int32) (I : am_I) (L : am_L) (hf : fX1_broughtHomeBy_b63 n d k4 s0 a1 a2 a3 I L = some (r, I', L')) : am_J x (fun S => S = (some (.int r), (KC al), (RC al), I', L')) 63 [some (.ref 58), some (.int a1), some (.int a2), some (.int a3), none] [.int s0] (KC al) (RC al) I L 0 0 := by
  unfold fX1_broughtHomeBy_b63 at hf
  refine j_istore hc dX1_broughtHomeBy_63 (Nat.le_of_ble_eq_true rfl) hf (fun v1 hf => ?_)
  refine j_iload hc dX1_broughtHomeBy_65 rfl ?_
  refine j_if_eq (tgt := 97) hc dX1_broughtHomeBy_67 rfl hf (fun hf => ?_) (fun hf => ?_)
  · exact j_sub (tX1_broughtHomeBy_b97 n d hc k4 hk4 _ _ _ _ _ hf) (And.intro rfl (And.intro rfl (And.intro rfl (And.intro rfl (trivial)))))
  · refine j_aload_n hc dX1_broughtHomeBy_70 rfl ?_
    refine j_getR (u := 39) hc dX1_broughtHomeBy_71 (fgC_X1_23_58 _) (rC_58_1 _) ?_
    refine j_getR (u := 40) hc dX1_broughtHomeBy_74 (fgC_X1_49_39 _) (rC_39_2 _) ?_
    refine j_iload_n hc dX1_broughtHomeBy_77 rfl ?_
    refine j_iaload (n := 8) hc dX1_broughtHomeBy_78 (kC_40 _) hf (fun v2 hf => ?_)
    refine j_aload_n hc dX1_broughtHomeBy_79 rfl ?_
    refine j_getR (u := 3) hc dX1_broughtHomeBy_80 (fgC_X1_19_58 _) (rC_58_0 _) ?_
    refine j_getR (u := 6) hc dX1_broughtHomeBy_83 (fgC_X1_52_3 _) (rC_3_7 _) ?_
    refine j_iload_n hc dX1_broughtHomeBy_86 rfl ?_
    refine j_iaload (n := 8) hc dX1_broughtHomeBy_87 (kC_6 _) hf (fun v3 hf => ?_)
    refine j_icmp_gt (tgt := 97) hc dX1_broughtHomeBy_88 rfl hf (fun hf => ?_) (fun hf => ?_)
    · exact j_sub (tX1_broughtHomeBy_b97 n d hc k4 hk4 _ _ _ _ _ hf) (And.intro rfl (And.intro rfl (And.intro rfl (And.intro rfl (trivial)))))
    · refine j_iload_n hc dX1_broughtHomeBy_91 rfl ?_
      refine j_iconst (v := (1 : Int32)) hc dX1_broughtHomeBy_92 ci_1 ?_
      refine j_iload_n hc dX1_broughtHomeBy_93 rfl ?_
      refine j_ishl hc dX1_broughtHomeBy_94 ?_
      refine j_ior hc dX1_broughtHomeBy_95 ?_
      refine j_istore_n hc dX1_broughtHomeBy_96 (Nat.le_of_ble_eq_true rfl) hf (fun v4 hf => ?_)
      exact j_sub (tX1_broughtHomeBy_b97 n d hc k4 hk4 _ _ _ _ _ hf) (And.intro rfl (And.intro rfl (And.intro rfl (And.intro rfl (trivial)))))

set_option maxRecDepth 100000 in
def fX1_broughtHomeBy_b62 (n d : Nat) (k4 : Int32 → Int32 → Int32 → am_I → am_L → Option (Int32 × am_I × am_L)) (a1 : Int32) (a2 : Int32) (a3 : Int32) (I : am_I) (L : am_L) : Option (Int32 × am_I × am_L) :=
  fX1_broughtHomeBy_b63 n d k4 (0 : Int32) a1 a2 a3 I L

set_option maxRecDepth 100000 in
set_option maxHeartbeats 4000000 in
theorem tX1_broughtHomeBy_b62 {x : am_X} {al : Bool} (n d : Nat) (hc : am_ok x cX1_broughtHomeBy yX1_broughtHomeBy 5 (some .int) (d + 2) 0 0) {r : Int32} {I' : am_I} {L' : am_L} (k4 : Int32 → Int32 → Int32 → am_I → am_L → Option (Int32 × am_I × am_L)) (hk4 : ∀ (a1 : Int32) (a2 : Int32) (a3 : Int32) (I : am_I) (L : am_L), k4 a1 a2 a3 I L = some (r, I', L') → am_J x (fun S => S = (some (.int r), (KC al), (RC al), I', L')) 4 [some (.ref 58), some (.int a1), some (.int a2), some (.int a3), none] [] (KC al) (RC al) I L 0 0) (a1 : Int32) (a2 : Int32) (a3 : Int32) (I : am_I) (L : am_L) (hf : fX1_broughtHomeBy_b62 n d k4 a1 a2 a3 I L = some (r, I', L')) : am_J x (fun S => S = (some (.int r), (KC al), (RC al), I', L')) 62 [some (.ref 58), some (.int a1), some (.int a2), some (.int a3), none] [] (KC al) (RC al) I L 0 0 := by
  unfold fX1_broughtHomeBy_b62 at hf
  refine j_iconst (v := (0 : Int32)) hc dX1_broughtHomeBy_62 ci_0 ?_
  exact j_sub (tX1_broughtHomeBy_b63 n d hc k4 hk4 _ _ _ _ _ _ hf) (And.intro rfl (And.intro rfl (And.intro rfl (And.intro rfl (trivial)))))

set_option maxRecDepth 100000 in
def fX1_broughtHomeBy_b4w (n d : Nat) (k4 : Int32 → Int32 → Int32 → am_I → am_L → Option (Int32 × am_I × am_L)) (a1 : Int32) (a2 : Int32) (a3 : Int32) (I : am_I) (L : am_L) : Option (Int32 × am_I × am_L) :=
  if (I 3 0) ≤ a3 then
    (some (a2, I, L))
    else
    (am_ck a3 8 (am_lt (I 4 (a3).toNatClampNeg) (fun v1 => am_ck a1 8 (am_lt (I 4 (a1).toNatClampNeg) (fun v2 => if v1 = v2 then
      (fX1_broughtHomeBy_b62 n d k4 a1 a2 a3 I L)
      else
      (am_b3 (fX7_isHome n d a3 I L) (fun v3 I3 L3 => if v3 = 0 then
        (am_b3 (fX7_canGo n d a3 I3 L3) (fun v4 I4 L4 => if v4 = 0 then
          (fX1_broughtHomeBy_b62 n d k4 a1 a2 a3 I4 L4)
          else
          (fX1_broughtHomeBy_b63 n d k4 (1 : Int32) a1 a2 a3 I4 L4)))
        else
        (fX1_broughtHomeBy_b62 n d k4 a1 a2 a3 I3 L3))))))))

set_option maxRecDepth 100000 in
set_option maxHeartbeats 4000000 in
theorem tX1_broughtHomeBy_b4w {x : am_X} {al : Bool} (n d : Nat) (hc : am_ok x cX1_broughtHomeBy yX1_broughtHomeBy 5 (some .int) (d + 2) 0 0) {r : Int32} {I' : am_I} {L' : am_L} (k4 : Int32 → Int32 → Int32 → am_I → am_L → Option (Int32 × am_I × am_L)) (hk4 : ∀ (a1 : Int32) (a2 : Int32) (a3 : Int32) (I : am_I) (L : am_L), k4 a1 a2 a3 I L = some (r, I', L') → am_J x (fun S => S = (some (.int r), (KC al), (RC al), I', L')) 4 [some (.ref 58), some (.int a1), some (.int a2), some (.int a3), none] [] (KC al) (RC al) I L 0 0) (a1 : Int32) (a2 : Int32) (a3 : Int32) (I : am_I) (L : am_L) (hf : fX1_broughtHomeBy_b4w n d k4 a1 a2 a3 I L = some (r, I', L')) : am_J x (fun S => S = (some (.int r), (KC al), (RC al), I', L')) 4 [some (.ref 58), some (.int a1), some (.int a2), some (.int a3), none] [] (KC al) (RC al) I L 0 0 := by
  unfold fX1_broughtHomeBy_b4w at hf
  refine j_iload_n hc dX1_broughtHomeBy_4 rfl ?_
  refine j_aload_n hc dX1_broughtHomeBy_5 rfl ?_
  refine j_getR (u := 3) hc dX1_broughtHomeBy_6 (fgC_X1_19_58 _) (rC_58_0 _) ?_
  refine j_getI hc dX1_broughtHomeBy_9 (fgC_X1_27_3 _) ?_
  refine j_icmp_ge (tgt := 103) hc dX1_broughtHomeBy_12 rfl hf (fun hf => ?_) (fun hf => ?_)
  · refine j_iload_n hc dX1_broughtHomeBy_103 rfl ?_
    exact j_ireturn hc dX1_broughtHomeBy_104 rfl rfl hf
  · refine j_aload_n hc dX1_broughtHomeBy_15 rfl ?_
    refine j_getR (u := 3) hc dX1_broughtHomeBy_16 (fgC_X1_19_58 _) (rC_58_0 _) ?_
    refine j_getR (u := 4) hc dX1_broughtHomeBy_19 (fgC_X1_30_3 _) (rC_3_5 _) ?_
    refine j_iload_n hc dX1_broughtHomeBy_22 rfl ?_
    refine j_iaload (n := 8) hc dX1_broughtHomeBy_23 (kC_4 _) hf (fun v1 hf => ?_)
    refine j_aload_n hc dX1_broughtHomeBy_24 rfl ?_
    refine j_getR (u := 3) hc dX1_broughtHomeBy_25 (fgC_X1_19_58 _) (rC_58_0 _) ?_
    refine j_getR (u := 4) hc dX1_broughtHomeBy_28 (fgC_X1_30_3 _) (rC_3_5 _) ?_
    refine j_iload_n hc dX1_broughtHomeBy_31 rfl ?_
    refine j_iaload (n := 8) hc dX1_broughtHomeBy_32 (kC_4 _) hf (fun v2 hf => ?_)
    refine j_icmp_eq (tgt := 62) hc dX1_broughtHomeBy_33 rfl hf (fun hf => ?_) (fun hf => ?_)
    · exact j_sub (tX1_broughtHomeBy_b62 n d hc k4 hk4 _ _ _ _ _ hf) (And.intro rfl (And.intro rfl (And.intro rfl (And.intro rfl (trivial)))))
    · refine j_aload_n hc dX1_broughtHomeBy_36 rfl ?_
      refine j_getR (u := 39) hc dX1_broughtHomeBy_37 (fgC_X1_23_58 _) (rC_58_1 _) ?_
      refine j_iload_n hc dX1_broughtHomeBy_40 rfl ?_
      refine j_callVI (t := 39) (As := [.int a3]) hc dX1_broughtHomeBy_41 kw_1176 mX7_isHome (kC_39 _) clX7 rfl (by omega) (Nat.le_of_ble_eq_true rfl) (Nat.le_of_ble_eq_true rfl) ⟨Nat.le_refl _, Nat.le_refl _⟩ hf (fun v I' L' h => qX7_isHome x.2.1 n d a3 I L v I' L' h) (fun v3 I3 L3 hf => ?_)
      refine j_if_ne (tgt := 62) hc dX1_broughtHomeBy_44 rfl hf (fun hf => ?_) (fun hf => ?_)
      · exact j_sub (tX1_broughtHomeBy_b62 n d hc k4 hk4 _ _ _ _ _ hf) (And.intro rfl (And.intro rfl (And.intro rfl (And.intro rfl (trivial)))))
      · refine j_aload_n hc dX1_broughtHomeBy_47 rfl ?_
        refine j_getR (u := 39) hc dX1_broughtHomeBy_48 (fgC_X1_23_58 _) (rC_58_1 _) ?_
        refine j_iload_n hc dX1_broughtHomeBy_51 rfl ?_
        refine j_callVI (t := 39) (As := [.int a3]) hc dX1_broughtHomeBy_52 kw_1182 mX7_canGo (kC_39 _) clX7 rfl (by omega) (Nat.le_of_ble_eq_true rfl) (Nat.le_of_ble_eq_true rfl) ⟨Nat.le_refl _, Nat.le_refl _⟩ hf (fun v I' L' h => qX7_canGo x.2.1 n d a3 I3 L3 v I' L' h) (fun v4 I4 L4 hf => ?_)
        refine j_if_eq (tgt := 62) hc dX1_broughtHomeBy_55 rfl hf (fun hf => ?_) (fun hf => ?_)
        · exact j_sub (tX1_broughtHomeBy_b62 n d hc k4 hk4 _ _ _ _ _ hf) (And.intro rfl (And.intro rfl (And.intro rfl (And.intro rfl (trivial)))))
        · refine j_iconst (v := (1 : Int32)) hc dX1_broughtHomeBy_58 ci_1 ?_
          refine j_goto (tgt := 63) hc dX1_broughtHomeBy_59 rfl ?_
          exact j_sub (tX1_broughtHomeBy_b63 n d hc k4 hk4 _ _ _ _ _ _ hf) (And.intro rfl (And.intro rfl (And.intro rfl (And.intro rfl (trivial)))))

def fX1_broughtHomeBy_b4 (n d : Nat) : Nat → Int32 → Int32 → Int32 → am_I → am_L → Option (Int32 × am_I × am_L)
  | 0 => fun _ _ _ _ _ => none
  | m + 1 => fX1_broughtHomeBy_b4w n d  (fX1_broughtHomeBy_b4 n d m)

set_option maxRecDepth 100000 in
theorem tX1_broughtHomeBy_b4 {x : am_X} {al : Bool} (n d : Nat) (hc : am_ok x cX1_broughtHomeBy yX1_broughtHomeBy 5 (some .int) (d + 2) 0 0) {r : Int32} {I' : am_I} {L' : am_L} (m : Nat) : ∀ (a1 : Int32) (a2 : Int32) (a3 : Int32) (I : am_I) (L : am_L) (hf : fX1_broughtHomeBy_b4 n d m a1 a2 a3 I L = some (r, I', L')), am_J x (fun S => S = (some (.int r), (KC al), (RC al), I', L')) 4 [some (.ref 58), some (.int a1), some (.int a2), some (.int a3), none] [] (KC al) (RC al) I L 0 0 := by
  induction m with
  | zero => intro a1 a2 a3 I L hf; exact (Option.some_ne_none _ hf.symm).elim
  | succ m ih => intro a1 a2 a3 I L hf; exact tX1_broughtHomeBy_b4w n d hc (fX1_broughtHomeBy_b4 n d m) ih a1 a2 a3 I L hf

set_option maxRecDepth 100000 in
def fX1_broughtHomeBy (n d : Nat) (a1 : Int32) (I : am_I) (L : am_L) : Option (Int32 × am_I × am_L) :=
  am_lt (0 : Int32) (fun v1 => am_lt (0 : Int32) (fun v2 => fX1_broughtHomeBy_b4 n d n a1 v1 v2 I L))

set_option maxRecDepth 100000 in
set_option maxHeartbeats 4000000 in
theorem tX1_broughtHomeBy {x : am_X} {al : Bool} (n d : Nat) (hc : am_ok x cX1_broughtHomeBy yX1_broughtHomeBy 5 (some .int) (d + 2) 0 0) {r : Int32} {I' : am_I} {L' : am_L} (a1 : Int32) (I : am_I) (L : am_L) (hf : fX1_broughtHomeBy n d a1 I L = some (r, I', L')) : am_J x (fun S => S = (some (.int r), (KC al), (RC al), I', L')) 0 [some (.ref 58), some (.int a1), none, none, none] [] (KC al) (RC al) I L 0 0 := by
  unfold fX1_broughtHomeBy at hf
  refine j_iconst (v := (0 : Int32)) hc dX1_broughtHomeBy_0 ci_0 ?_
  refine j_istore_n hc dX1_broughtHomeBy_1 (Nat.le_of_ble_eq_true rfl) hf (fun v1 hf => ?_)
  refine j_iconst (v := (0 : Int32)) hc dX1_broughtHomeBy_2 ci_0 ?_
  refine j_istore_n hc dX1_broughtHomeBy_3 (Nat.le_of_ble_eq_true rfl) hf (fun v2 hf => ?_)
  exact j_sub (tX1_broughtHomeBy_b4 n d hc n _ _ _ _ _ hf) (And.intro rfl (And.intro rfl (And.intro rfl (And.intro rfl (trivial)))))

set_option maxRecDepth 100000 in
theorem qX1_broughtHomeBy (l : Launch) {al : Bool} (n d : Nat) (a1 : Int32) (I : am_I) (L : am_L) (r : Int32) (I' : am_I) (L' : am_L) (hf : fX1_broughtHomeBy n d a1 I L = some (r, I', L')) : am_C l yX1_broughtHomeBy cX1_broughtHomeBy 5 (some .int) (d + 2) [.ref 58, .int a1] (KC al) (RC al) I L (some (.int r)) I' L' := by
  exact am_intro (plainFor_of_name plX1) (fun _ _ => trivial) (Nat.le_of_ble_eq_true rfl) (fun x hl hc => by subst hl; exact j_sub (tX1_broughtHomeBy n d hc _ _ _ hf) (And.intro rfl (And.intro rfl (trivial))))
set_option maxRecDepth 100000 in
def fX1_gather_b77 (n d : Nat) (k7 : Int32 → Int32 → am_I → am_L → Option (am_I × am_L)) (a1 : Int32) (a2 : Int32) (I : am_I) (L : am_L) : Option (am_I × am_L) :=
  am_lt (a2 + (1 : Int32)) (fun v1 => k7 a1 v1 I L)

set_option maxRecDepth 100000 in
set_option maxHeartbeats 4000000 in
theorem tX1_gather_b77 {x : am_X} {al : Bool} (n d : Nat) (hc : am_ok x cX1_gather yX1_gather 3 none (d + 3) 0 0) {I' : am_I} {L' : am_L} (k7 : Int32 → Int32 → am_I → am_L → Option (am_I × am_L)) (hk7 : ∀ (a1 : Int32) (a2 : Int32) (I : am_I) (L : am_L), k7 a1 a2 I L = some (I', L') → am_J x (fun S => S = (none, (KC al), (RC al), I', L')) 7 [some (.ref 58), some (.int a1), some (.int a2)] [] (KC al) (RC al) I L 0 0) (a1 : Int32) (a2 : Int32) (I : am_I) (L : am_L) (hf : fX1_gather_b77 n d k7 a1 a2 I L = some (I', L')) : am_J x (fun S => S = (none, (KC al), (RC al), I', L')) 77 [some (.ref 58), some (.int a1), some (.int a2)] [] (KC al) (RC al) I L 0 0 := by
  unfold fX1_gather_b77 at hf
  refine j_iinc (w := (1 : Int32)) hc dX1_gather_77 rfl ci_1 (Nat.le_of_ble_eq_true rfl) hf (fun v1 hf => ?_)
  refine j_goto (tgt := 7) hc dX1_gather_80 rfl ?_
  exact j_sub (hk7 _ _ _ _ hf) (And.intro rfl (And.intro rfl (And.intro rfl (trivial))))

set_option maxRecDepth 100000 in
def fX1_gather_b7w (n d : Nat) (k7 : Int32 → Int32 → am_I → am_L → Option (am_I × am_L)) (a1 : Int32) (a2 : Int32) (I : am_I) (L : am_L) : Option (am_I × am_L) :=
  if (I 3 0) ≤ a2 then
    (some (I, L))
    else
    (am_ck a2 8 (am_lt (I 4 (a2).toNatClampNeg) (fun v1 => if v1 = a1 then
      (am_b3 (fX7_isHome n d a2 I L) (fun v2 I2 L2 => if v2 = 0 then
        (am_b3 (fX7_hasRest n d a2 I2 L2) (fun v3 I3 L3 => if v3 = 0 then
          (fX1_gather_b77 n d k7 a1 a2 I3 L3)
          else
          (am_b3 (fX1_broughtHomeBy n d a2 I3 L3) (fun v4 I4 L4 => am_ck (I3 58 3) 8 (am_lt (am_up I4 59 ((I3 58 3)).toNatClampNeg v4) (fun I5 => am_lt (am_up I5 58 3 ((I5 58 3) + (1 : Int32))) (fun I6 => fX1_gather_b77 n d k7 a1 a2 I6 L4)))))))
        else
        (fX1_gather_b77 n d k7 a1 a2 I2 L2)))
      else
      (fX1_gather_b77 n d k7 a1 a2 I L))))

set_option maxRecDepth 100000 in
set_option maxHeartbeats 4000000 in
theorem tX1_gather_b7w {x : am_X} {al : Bool} (n d : Nat) (hc : am_ok x cX1_gather yX1_gather 3 none (d + 3) 0 0) {I' : am_I} {L' : am_L} (k7 : Int32 → Int32 → am_I → am_L → Option (am_I × am_L)) (hk7 : ∀ (a1 : Int32) (a2 : Int32) (I : am_I) (L : am_L), k7 a1 a2 I L = some (I', L') → am_J x (fun S => S = (none, (KC al), (RC al), I', L')) 7 [some (.ref 58), some (.int a1), some (.int a2)] [] (KC al) (RC al) I L 0 0) (a1 : Int32) (a2 : Int32) (I : am_I) (L : am_L) (hf : fX1_gather_b7w n d k7 a1 a2 I L = some (I', L')) : am_J x (fun S => S = (none, (KC al), (RC al), I', L')) 7 [some (.ref 58), some (.int a1), some (.int a2)] [] (KC al) (RC al) I L 0 0 := by
  unfold fX1_gather_b7w at hf
  refine j_iload_n hc dX1_gather_7 rfl ?_
  refine j_aload_n hc dX1_gather_8 rfl ?_
  refine j_getR (u := 3) hc dX1_gather_9 (fgC_X1_19_58 _) (rC_58_0 _) ?_
  refine j_getI hc dX1_gather_12 (fgC_X1_27_3 _) ?_
  refine j_icmp_ge (tgt := 83) hc dX1_gather_15 rfl hf (fun hf => ?_) (fun hf => ?_)
  · exact j_return hc dX1_gather_83 rfl rfl hf
  · refine j_aload_n hc dX1_gather_18 rfl ?_
    refine j_getR (u := 3) hc dX1_gather_19 (fgC_X1_19_58 _) (rC_58_0 _) ?_
    refine j_getR (u := 4) hc dX1_gather_22 (fgC_X1_30_3 _) (rC_3_5 _) ?_
    refine j_iload_n hc dX1_gather_25 rfl ?_
    refine j_iaload (n := 8) hc dX1_gather_26 (kC_4 _) hf (fun v1 hf => ?_)
    refine j_iload_n hc dX1_gather_27 rfl ?_
    refine j_icmp_ne (tgt := 77) hc dX1_gather_28 rfl hf (fun hf => ?_) (fun hf => ?_)
    · exact j_sub (tX1_gather_b77 n d hc k7 hk7 _ _ _ _ hf) (And.intro rfl (And.intro rfl (And.intro rfl (trivial))))
    · refine j_aload_n hc dX1_gather_31 rfl ?_
      refine j_getR (u := 39) hc dX1_gather_32 (fgC_X1_23_58 _) (rC_58_1 _) ?_
      refine j_iload_n hc dX1_gather_35 rfl ?_
      refine j_callVI (t := 39) (As := [.int a2]) hc dX1_gather_36 kw_1176 mX7_isHome (kC_39 _) clX7 rfl (by omega) (Nat.le_of_ble_eq_true rfl) (Nat.le_of_ble_eq_true rfl) ⟨Nat.le_refl _, Nat.le_refl _⟩ hf (fun v I' L' h => qX7_isHome x.2.1 n d a2 I L v I' L' h) (fun v2 I2 L2 hf => ?_)
      refine j_if_ne (tgt := 77) hc dX1_gather_39 rfl hf (fun hf => ?_) (fun hf => ?_)
      · exact j_sub (tX1_gather_b77 n d hc k7 hk7 _ _ _ _ hf) (And.intro rfl (And.intro rfl (And.intro rfl (trivial))))
      · refine j_aload_n hc dX1_gather_42 rfl ?_
        refine j_getR (u := 39) hc dX1_gather_43 (fgC_X1_23_58 _) (rC_58_1 _) ?_
        refine j_iload_n hc dX1_gather_46 rfl ?_
        refine j_callVI (t := 39) (As := [.int a2]) hc dX1_gather_47 kw_1177 mX7_hasRest (kC_39 _) clX7 rfl (by omega) (Nat.le_of_ble_eq_true rfl) (Nat.le_of_ble_eq_true rfl) ⟨Nat.le_refl _, Nat.le_refl _⟩ hf (fun v I' L' h => qX7_hasRest x.2.1 n d a2 I2 L2 v I' L' h) (fun v3 I3 L3 hf => ?_)
        refine j_if_eq (tgt := 77) hc dX1_gather_50 rfl hf (fun hf => ?_) (fun hf => ?_)
        · exact j_sub (tX1_gather_b77 n d hc k7 hk7 _ _ _ _ hf) (And.intro rfl (And.intro rfl (And.intro rfl (trivial))))
        · refine j_aload_n hc dX1_gather_53 rfl ?_
          refine j_getR (u := 59) hc dX1_gather_54 (fgC_X1_9_58 _) (rC_58_2 _) ?_
          refine j_aload_n hc dX1_gather_57 rfl ?_
          refine j_getI hc dX1_gather_58 (fgC_X1_15_58 _) ?_
          refine j_aload_n hc dX1_gather_61 rfl ?_
          refine j_iload_n hc dX1_gather_62 rfl ?_
          refine j_callVI (t := 58) (As := [.int a2]) hc dX1_gather_63 kw_1178 mX1_broughtHomeBy (kC_58 _) clX1 rfl (by omega) (Nat.le_of_ble_eq_true rfl) (Nat.le_of_ble_eq_true rfl) ⟨Nat.le_refl _, Nat.le_refl _⟩ hf (fun v I' L' h => qX1_broughtHomeBy x.2.1 n d a2 I3 L3 v I' L' h) (fun v4 I4 L4 hf => ?_)
          refine j_iastore (n := 8) hc dX1_gather_66 (kC_59 _) hf (fun I5 hf => ?_)
          refine j_aload_n hc dX1_gather_67 rfl ?_
          refine j_dup hc dX1_gather_68 rfl ?_
          refine j_getI hc dX1_gather_69 (fgC_X1_15_58 _) ?_
          refine j_iconst (v := (1 : Int32)) hc dX1_gather_72 ci_1 ?_
          refine j_iadd hc dX1_gather_73 ?_
          refine j_putI hc dX1_gather_74 (fpC_X1_15_58 _) rfl rfl hf (fun I6 hf => ?_)
          exact j_sub (tX1_gather_b77 n d hc k7 hk7 _ _ _ _ hf) (And.intro rfl (And.intro rfl (And.intro rfl (trivial))))

def fX1_gather_b7 (n d : Nat) : Nat → Int32 → Int32 → am_I → am_L → Option (am_I × am_L)
  | 0 => fun _ _ _ _ => none
  | m + 1 => fX1_gather_b7w n d  (fX1_gather_b7 n d m)

set_option maxRecDepth 100000 in
theorem tX1_gather_b7 {x : am_X} {al : Bool} (n d : Nat) (hc : am_ok x cX1_gather yX1_gather 3 none (d + 3) 0 0) {I' : am_I} {L' : am_L} (m : Nat) : ∀ (a1 : Int32) (a2 : Int32) (I : am_I) (L : am_L) (hf : fX1_gather_b7 n d m a1 a2 I L = some (I', L')), am_J x (fun S => S = (none, (KC al), (RC al), I', L')) 7 [some (.ref 58), some (.int a1), some (.int a2)] [] (KC al) (RC al) I L 0 0 := by
  induction m with
  | zero => intro a1 a2 I L hf; exact (Option.some_ne_none _ hf.symm).elim
  | succ m ih => intro a1 a2 I L hf; exact tX1_gather_b7w n d hc (fX1_gather_b7 n d m) ih a1 a2 I L hf

set_option maxRecDepth 100000 in
def fX1_gather (n d : Nat) (a1 : Int32) (I : am_I) (L : am_L) : Option (am_I × am_L) :=
  am_lt (am_up I 58 3 (0 : Int32)) (fun I1 => am_lt (0 : Int32) (fun v2 => fX1_gather_b7 n d n a1 v2 I1 L))

set_option maxRecDepth 100000 in
set_option maxHeartbeats 4000000 in
theorem tX1_gather {x : am_X} {al : Bool} (n d : Nat) (hc : am_ok x cX1_gather yX1_gather 3 none (d + 3) 0 0) {I' : am_I} {L' : am_L} (a1 : Int32) (I : am_I) (L : am_L) (hf : fX1_gather n d a1 I L = some (I', L')) : am_J x (fun S => S = (none, (KC al), (RC al), I', L')) 0 [some (.ref 58), some (.int a1), none] [] (KC al) (RC al) I L 0 0 := by
  unfold fX1_gather at hf
  refine j_aload_n hc dX1_gather_0 rfl ?_
  refine j_iconst (v := (0 : Int32)) hc dX1_gather_1 ci_0 ?_
  refine j_putI hc dX1_gather_2 (fpC_X1_15_58 _) rfl rfl hf (fun I1 hf => ?_)
  refine j_iconst (v := (0 : Int32)) hc dX1_gather_5 ci_0 ?_
  refine j_istore_n hc dX1_gather_6 (Nat.le_of_ble_eq_true rfl) hf (fun v2 hf => ?_)
  exact j_sub (tX1_gather_b7 n d hc n _ _ _ _ hf) (And.intro rfl (And.intro rfl (And.intro rfl (trivial))))

set_option maxRecDepth 100000 in
theorem qX1_gather (l : Launch) {al : Bool} (n d : Nat) (a1 : Int32) (I : am_I) (L : am_L) (I' : am_I) (L' : am_L) (hf : fX1_gather n d a1 I L = some (I', L')) : am_C l yX1_gather cX1_gather 3 none (d + 3) [.ref 58, .int a1] (KC al) (RC al) I L none I' L' := by
  exact am_intro (plainFor_of_name plX1) (fun _ _ => trivial) (Nat.le_of_ble_eq_true rfl) (fun x hl hc => by subst hl; exact j_sub (tX1_gather n d hc _ _ _ hf) (And.intro rfl (And.intro rfl (trivial))))
set_option maxRecDepth 100000 in
def fX9_allBits_war (n d : Nat) (I : am_I) (L : am_L) : Option (Int32 × am_I × am_L) :=
  some ((((1 : Int32) <<< ((I 3 0) &&& 31)) - (1 : Int32)), I, L)

set_option maxRecDepth 100000 in
set_option maxHeartbeats 4000000 in
theorem tX9_allBits_war {x : am_X} {al : Bool} (n d : Nat) (hc : am_ok x cX9_allBits yX9_allBits 1 (some .int) (d + 1) 0 0) {r : Int32} {I' : am_I} {L' : am_L} (I : am_I) (L : am_L) (hf : fX9_allBits_war n d I L = some (r, I', L')) : am_J x (fun S => S = (some (.int r), (KC al), (RC al), I', L')) 0 [some (.ref 3)] [] (KC al) (RC al) I L 0 0 := by
  unfold fX9_allBits_war at hf
  refine j_iconst (v := (1 : Int32)) hc dX9_allBits_0 ci_1 ?_
  refine j_aload_n hc dX9_allBits_1 rfl ?_
  refine j_getI hc dX9_allBits_2 (fgC_X9_7_3 _) ?_
  refine j_ishl hc dX9_allBits_5 ?_
  refine j_iconst (v := (1 : Int32)) hc dX9_allBits_6 ci_1 ?_
  refine j_isub hc dX9_allBits_7 ?_
  exact j_ireturn hc dX9_allBits_8 rfl rfl hf

set_option maxRecDepth 100000 in
theorem qX9_allBits_war (l : Launch) {al : Bool} (n d : Nat) (I : am_I) (L : am_L) (r : Int32) (I' : am_I) (L' : am_L) (hf : fX9_allBits_war n d I L = some (r, I', L')) : am_C l yX9_allBits cX9_allBits 1 (some .int) (d + 1) [.ref 3] (KC al) (RC al) I L (some (.int r)) I' L' := by
  exact am_intro (plainFor_of_name plX9) (fun _ _ => trivial) (Nat.le_of_ble_eq_true rfl) (fun x hl hc => by subst hl; exact j_sub (tX9_allBits_war n d hc  _ _ hf) (And.intro rfl (trivial)))
set_option maxRecDepth 100000 in
def fX1_mostFrom_b78 (n d : Nat) (g : Nat → Int32 → Int32 → Int32 → Int32 → Int32 → am_I → am_L → Option (Int32 × am_I × am_L)) (k28 : Int32 → Int32 → Int32 → Int32 → am_I → am_L → Option (Int32 × am_I × am_L)) (a1 : Int32) (a2 : Int32) (a3 : Int32) (a4 : Int32) (I : am_I) (L : am_L) : Option (Int32 × am_I × am_L) :=
  am_lt (a4 + (1 : Int32)) (fun v1 => k28 a1 a2 a3 v1 I L)

set_option maxRecDepth 100000 in
set_option maxHeartbeats 4000000 in
theorem tX1_mostFrom_b78 {x : am_X} {al : Bool} (n d : Nat) (g : Nat → Int32 → Int32 → Int32 → Int32 → Int32 → am_I → am_L → Option (Int32 × am_I × am_L)) (hg : ∀ (w : Nat) (e1 e2 e3 e4 e5 : Int32) (I : am_I) (L : am_L) (v : Int32) (I' : am_I) (L' : am_L), g w e1 e2 e3 e4 e5 I L = some (v, I', L') → (w = 0 → am_C x.2.1 yX1_mostFrom cX1_mostFrom 5 (some .int) (d + 2) [.ref 58, .int e1, .int e2] (KC al) (RC al) I L (some (.int v)) I' L')) (hc : am_ok x cX1_mostFrom yX1_mostFrom 5 (some .int) (d + 3) 0 0) {r : Int32} {I' : am_I} {L' : am_L} (k28 : Int32 → Int32 → Int32 → Int32 → am_I → am_L → Option (Int32 × am_I × am_L)) (hk28 : ∀ (a1 : Int32) (a2 : Int32) (a3 : Int32) (a4 : Int32) (I : am_I) (L : am_L), k28 a1 a2 a3 a4 I L = some (r, I', L') → am_J x (fun S => S = (some (.int r), (KC al), (RC al), I', L')) 28 [some (.ref 58), some (.int a1), some (.int a2), some (.int a3), some (.int a4)] [] (KC al) (RC al) I L 0 0) (a1 : Int32) (a2 : Int32) (a3 : Int32) (a4 : Int32) (I : am_I) (L : am_L) (hf : fX1_mostFrom_b78 n d g k28 a1 a2 a3 a4 I L = some (r, I', L')) : am_J x (fun S => S = (some (.int r), (KC al), (RC al), I', L')) 78 [some (.ref 58), some (.int a1), some (.int a2), some (.int a3), some (.int a4)] [] (KC al) (RC al) I L 0 0 := by
  unfold fX1_mostFrom_b78 at hf
  refine j_iinc (w := (1 : Int32)) hc dX1_mostFrom_78 rfl ci_1 (Nat.le_of_ble_eq_true rfl) hf (fun v1 hf => ?_)
  refine j_goto (tgt := 28) hc dX1_mostFrom_81 rfl ?_
  exact j_sub (hk28 _ _ _ _ _ _ hf) (And.intro rfl (And.intro rfl (And.intro rfl (And.intro rfl (And.intro rfl (trivial))))))

set_option maxRecDepth 100000 in
def fX1_mostFrom_b28w (n d : Nat) (g : Nat → Int32 → Int32 → Int32 → Int32 → Int32 → am_I → am_L → Option (Int32 × am_I × am_L)) (k28 : Int32 → Int32 → Int32 → Int32 → am_I → am_L → Option (Int32 × am_I × am_L)) (a1 : Int32) (a2 : Int32) (a3 : Int32) (a4 : Int32) (I : am_I) (L : am_L) : Option (Int32 × am_I × am_L) :=
  if (I 3 0) ≤ a4 then
    (some (a3, I, L))
    else
    (am_ck a1 8 (am_lt (I 59 (a1).toNatClampNeg) (fun v1 => if ((v1 &&& a2) &&& ((1 : Int32) <<< (a4 &&& 31))) = 0 then
      (fX1_mostFrom_b78 n d g k28 a1 a2 a3 a4 I L)
      else
      (am_b3 (g 0 (a1 + (1 : Int32)) (a2 &&& (((1 : Int32) <<< (a4 &&& 31)) ^^^ (-1 : Int32))) 0 0 0 I L) (fun v2 I2 L2 => am_b3 (fJ9_max_7cf53 n d a3 ((1 : Int32) + v2) I2 L2) (fun v3 I3 L3 => am_lt v3 (fun v4 => fX1_mostFrom_b78 n d g k28 a1 a2 v4 a4 I3 L3)))))))

set_option maxRecDepth 100000 in
set_option maxHeartbeats 4000000 in
theorem tX1_mostFrom_b28w {x : am_X} {al : Bool} (n d : Nat) (g : Nat → Int32 → Int32 → Int32 → Int32 → Int32 → am_I → am_L → Option (Int32 × am_I × am_L)) (hg : ∀ (w : Nat) (e1 e2 e3 e4 e5 : Int32) (I : am_I) (L : am_L) (v : Int32) (I' : am_I) (L' : am_L), g w e1 e2 e3 e4 e5 I L = some (v, I', L') → (w = 0 → am_C x.2.1 yX1_mostFrom cX1_mostFrom 5 (some .int) (d + 2) [.ref 58, .int e1, .int e2] (KC al) (RC al) I L (some (.int v)) I' L')) (hc : am_ok x cX1_mostFrom yX1_mostFrom 5 (some .int) (d + 3) 0 0) {r : Int32} {I' : am_I} {L' : am_L} (k28 : Int32 → Int32 → Int32 → Int32 → am_I → am_L → Option (Int32 × am_I × am_L)) (hk28 : ∀ (a1 : Int32) (a2 : Int32) (a3 : Int32) (a4 : Int32) (I : am_I) (L : am_L), k28 a1 a2 a3 a4 I L = some (r, I', L') → am_J x (fun S => S = (some (.int r), (KC al), (RC al), I', L')) 28 [some (.ref 58), some (.int a1), some (.int a2), some (.int a3), some (.int a4)] [] (KC al) (RC al) I L 0 0) (a1 : Int32) (a2 : Int32) (a3 : Int32) (a4 : Int32) (I : am_I) (L : am_L) (hf : fX1_mostFrom_b28w n d g k28 a1 a2 a3 a4 I L = some (r, I', L')) : am_J x (fun S => S = (some (.int r), (KC al), (RC al), I', L')) 28 [some (.ref 58), some (.int a1), some (.int a2), some (.int a3), some (.int a4)] [] (KC al) (RC al) I L 0 0 := by
  unfold fX1_mostFrom_b28w at hf
  refine j_iload hc dX1_mostFrom_28 rfl ?_
  refine j_aload_n hc dX1_mostFrom_30 rfl ?_
  refine j_getR (u := 3) hc dX1_mostFrom_31 (fgC_X1_19_58 _) (rC_58_0 _) ?_
  refine j_getI hc dX1_mostFrom_34 (fgC_X1_27_3 _) ?_
  refine j_icmp_ge (tgt := 84) hc dX1_mostFrom_37 rfl hf (fun hf => ?_) (fun hf => ?_)
  · refine j_iload_n hc dX1_mostFrom_84 rfl ?_
    exact j_ireturn hc dX1_mostFrom_85 rfl rfl hf
  · refine j_aload_n hc dX1_mostFrom_40 rfl ?_
    refine j_getR (u := 59) hc dX1_mostFrom_41 (fgC_X1_9_58 _) (rC_58_2 _) ?_
    refine j_iload_n hc dX1_mostFrom_44 rfl ?_
    refine j_iaload (n := 8) hc dX1_mostFrom_45 (kC_59 _) hf (fun v1 hf => ?_)
    refine j_iload_n hc dX1_mostFrom_46 rfl ?_
    refine j_iand hc dX1_mostFrom_47 ?_
    refine j_iconst (v := (1 : Int32)) hc dX1_mostFrom_48 ci_1 ?_
    refine j_iload hc dX1_mostFrom_49 rfl ?_
    refine j_ishl hc dX1_mostFrom_51 ?_
    refine j_iand hc dX1_mostFrom_52 ?_
    refine j_if_eq (tgt := 78) hc dX1_mostFrom_53 rfl hf (fun hf => ?_) (fun hf => ?_)
    · exact j_sub (tX1_mostFrom_b78 n d g hg hc k28 hk28 _ _ _ _ _ _ hf) (And.intro rfl (And.intro rfl (And.intro rfl (And.intro rfl (And.intro rfl (trivial))))))
    · refine j_iload_n hc dX1_mostFrom_56 rfl ?_
      refine j_iconst (v := (1 : Int32)) hc dX1_mostFrom_57 ci_1 ?_
      refine j_aload_n hc dX1_mostFrom_58 rfl ?_
      refine j_iload_n hc dX1_mostFrom_59 rfl ?_
      refine j_iconst (v := (1 : Int32)) hc dX1_mostFrom_60 ci_1 ?_
      refine j_iadd hc dX1_mostFrom_61 ?_
      refine j_iload_n hc dX1_mostFrom_62 rfl ?_
      refine j_iconst (v := (1 : Int32)) hc dX1_mostFrom_63 ci_1 ?_
      refine j_iload hc dX1_mostFrom_64 rfl ?_
      refine j_ishl hc dX1_mostFrom_66 ?_
      refine j_iconst (v := (-1 : Int32)) hc dX1_mostFrom_67 ci_m1 ?_
      refine j_ixor hc dX1_mostFrom_68 ?_
      refine j_iand hc dX1_mostFrom_69 ?_
      refine j_callVI (t := 58) (As := [.int (a1 + (1 : Int32)), .int (a2 &&& (((1 : Int32) <<< (a4 &&& 31)) ^^^ (-1 : Int32)))]) hc dX1_mostFrom_70 kw_1191 mX1_mostFrom (kC_58 _) clX1 rfl (by omega) (Nat.le_of_ble_eq_true rfl) (Nat.le_of_ble_eq_true rfl) ⟨Nat.le_refl _, Nat.le_refl _⟩ hf (fun v I' L' h => (hg 0 _ _ _ _ _ _ _ _ _ _ h) rfl) (fun v2 I2 L2 hf => ?_)
      refine j_iadd hc dX1_mostFrom_73 ?_
      refine j_callSI (As := [.int a3, .int ((1 : Int32) + v2)]) hc dX1_mostFrom_74 kw_1195 mJ9_max_7cf53  rfl (by omega) (Nat.le_of_ble_eq_true rfl) (Nat.le_of_ble_eq_true rfl) ⟨Nat.le_refl _, Nat.le_refl _⟩ hf (fun v I' L' h => qJ9_max_7cf53 x.2.1 n d a3 ((1 : Int32) + v2) I2 L2 v I' L' h) (fun v3 I3 L3 hf => ?_)
      refine j_istore_n hc dX1_mostFrom_77 (Nat.le_of_ble_eq_true rfl) hf (fun v4 hf => ?_)
      exact j_sub (tX1_mostFrom_b78 n d g hg hc k28 hk28 _ _ _ _ _ _ hf) (And.intro rfl (And.intro rfl (And.intro rfl (And.intro rfl (And.intro rfl (trivial))))))

def fX1_mostFrom_b28 (n d : Nat) (g : Nat → Int32 → Int32 → Int32 → Int32 → Int32 → am_I → am_L → Option (Int32 × am_I × am_L)) : Nat → Int32 → Int32 → Int32 → Int32 → am_I → am_L → Option (Int32 × am_I × am_L)
  | 0 => fun _ _ _ _ _ _ => none
  | m + 1 => fX1_mostFrom_b28w n d g (fX1_mostFrom_b28 n d g m)

set_option maxRecDepth 100000 in
theorem tX1_mostFrom_b28 {x : am_X} {al : Bool} (n d : Nat) (g : Nat → Int32 → Int32 → Int32 → Int32 → Int32 → am_I → am_L → Option (Int32 × am_I × am_L)) (hg : ∀ (w : Nat) (e1 e2 e3 e4 e5 : Int32) (I : am_I) (L : am_L) (v : Int32) (I' : am_I) (L' : am_L), g w e1 e2 e3 e4 e5 I L = some (v, I', L') → (w = 0 → am_C x.2.1 yX1_mostFrom cX1_mostFrom 5 (some .int) (d + 2) [.ref 58, .int e1, .int e2] (KC al) (RC al) I L (some (.int v)) I' L')) (hc : am_ok x cX1_mostFrom yX1_mostFrom 5 (some .int) (d + 3) 0 0) {r : Int32} {I' : am_I} {L' : am_L} (m : Nat) : ∀ (a1 : Int32) (a2 : Int32) (a3 : Int32) (a4 : Int32) (I : am_I) (L : am_L) (hf : fX1_mostFrom_b28 n d g m a1 a2 a3 a4 I L = some (r, I', L')), am_J x (fun S => S = (some (.int r), (KC al), (RC al), I', L')) 28 [some (.ref 58), some (.int a1), some (.int a2), some (.int a3), some (.int a4)] [] (KC al) (RC al) I L 0 0 := by
  induction m with
  | zero => intro a1 a2 a3 a4 I L hf; exact (Option.some_ne_none _ hf.symm).elim
  | succ m ih => intro a1 a2 a3 a4 I L hf; exact tX1_mostFrom_b28w n d g hg hc (fX1_mostFrom_b28 n d g m) ih a1 a2 a3 a4 I L hf

set_option maxRecDepth 100000 in
def fX1_mostFrom_g (n d : Nat) (g : Nat → Int32 → Int32 → Int32 → Int32 → Int32 → am_I → am_L → Option (Int32 × am_I × am_L)) (a1 : Int32) (a2 : Int32) (I : am_I) (L : am_L) : Option (Int32 × am_I × am_L) :=
  if (I 58 3) ≤ a1 then
    (some ((0 : Int32), I, L))
    else
    (if a1 < (8 : Int32) then
      (am_b3 (g 0 (a1 + (1 : Int32)) a2 0 0 0 I L) (fun v1 I1 L1 => am_lt v1 (fun v2 => am_lt (0 : Int32) (fun v3 => fX1_mostFrom_b28 n d g n a1 a2 v2 v3 I1 L1))))
      else
      (some ((0 : Int32), I, L)))

set_option maxRecDepth 100000 in
set_option maxHeartbeats 4000000 in
theorem tX1_mostFrom_g {x : am_X} {al : Bool} (n d : Nat) (g : Nat → Int32 → Int32 → Int32 → Int32 → Int32 → am_I → am_L → Option (Int32 × am_I × am_L)) (hg : ∀ (w : Nat) (e1 e2 e3 e4 e5 : Int32) (I : am_I) (L : am_L) (v : Int32) (I' : am_I) (L' : am_L), g w e1 e2 e3 e4 e5 I L = some (v, I', L') → (w = 0 → am_C x.2.1 yX1_mostFrom cX1_mostFrom 5 (some .int) (d + 2) [.ref 58, .int e1, .int e2] (KC al) (RC al) I L (some (.int v)) I' L')) (hc : am_ok x cX1_mostFrom yX1_mostFrom 5 (some .int) (d + 3) 0 0) {r : Int32} {I' : am_I} {L' : am_L} (a1 : Int32) (a2 : Int32) (I : am_I) (L : am_L) (hf : fX1_mostFrom_g n d g a1 a2 I L = some (r, I', L')) : am_J x (fun S => S = (some (.int r), (KC al), (RC al), I', L')) 0 [some (.ref 58), some (.int a1), some (.int a2), none, none] [] (KC al) (RC al) I L 0 0 := by
  unfold fX1_mostFrom_g at hf
  refine j_iload_n hc dX1_mostFrom_0 rfl ?_
  refine j_aload_n hc dX1_mostFrom_1 rfl ?_
  refine j_getI hc dX1_mostFrom_2 (fgC_X1_15_58 _) ?_
  refine j_icmp_ge (tgt := 14) hc dX1_mostFrom_5 rfl hf (fun hf => ?_) (fun hf => ?_)
  · refine j_iconst (v := (0 : Int32)) hc dX1_mostFrom_14 ci_0 ?_
    exact j_ireturn hc dX1_mostFrom_15 rfl rfl hf
  · refine j_iload_n hc dX1_mostFrom_8 rfl ?_
    refine j_bipush (v := (8 : Int32)) hc dX1_mostFrom_9 cb_8 ?_
    refine j_icmp_lt (tgt := 16) hc dX1_mostFrom_11 rfl hf (fun hf => ?_) (fun hf => ?_)
    · refine j_aload_n hc dX1_mostFrom_16 rfl ?_
      refine j_iload_n hc dX1_mostFrom_17 rfl ?_
      refine j_iconst (v := (1 : Int32)) hc dX1_mostFrom_18 ci_1 ?_
      refine j_iadd hc dX1_mostFrom_19 ?_
      refine j_iload_n hc dX1_mostFrom_20 rfl ?_
      refine j_callVI (t := 58) (As := [.int (a1 + (1 : Int32)), .int a2]) hc dX1_mostFrom_21 kw_1191 mX1_mostFrom (kC_58 _) clX1 rfl (by omega) (Nat.le_of_ble_eq_true rfl) (Nat.le_of_ble_eq_true rfl) ⟨Nat.le_refl _, Nat.le_refl _⟩ hf (fun v I' L' h => (hg 0 _ _ _ _ _ _ _ _ _ _ h) rfl) (fun v1 I1 L1 hf => ?_)
      refine j_istore_n hc dX1_mostFrom_24 (Nat.le_of_ble_eq_true rfl) hf (fun v2 hf => ?_)
      refine j_iconst (v := (0 : Int32)) hc dX1_mostFrom_25 ci_0 ?_
      refine j_istore hc dX1_mostFrom_26 (Nat.le_of_ble_eq_true rfl) hf (fun v3 hf => ?_)
      exact j_sub (tX1_mostFrom_b28 n d g hg hc n _ _ _ _ _ _ hf) (And.intro rfl (And.intro rfl (And.intro rfl (And.intro rfl (And.intro rfl (trivial))))))
    · refine j_iconst (v := (0 : Int32)) hc dX1_mostFrom_14 ci_0 ?_
      exact j_ireturn hc dX1_mostFrom_15 rfl rfl hf

def gX1_mostFrom (n : Nat) : Nat → Nat → Int32 → Int32 → Int32 → Int32 → Int32 → am_I → am_L → Option (Int32 × am_I × am_L)
  | 0 => fun _ _ _ _ _ _ _ _ => none
  | d + 1 => fun w e1 e2 e3 e4 e5 I L => match w with
    | 0 => fX1_mostFrom_g n d (gX1_mostFrom n d) e1 e2 I L
    | _ => none
set_option maxRecDepth 100000 in
set_option maxHeartbeats 4000000 in
theorem cgX1_mostFrom (l : Launch) {al : Bool} (n d : Nat) : ∀ (w : Nat) (e1 e2 e3 e4 e5 : Int32) (I : am_I) (L : am_L) (v : Int32) (I' : am_I) (L' : am_L), gX1_mostFrom n d w e1 e2 e3 e4 e5 I L = some (v, I', L') → (w = 0 → am_C l yX1_mostFrom cX1_mostFrom 5 (some .int) (d + 2) [.ref 58, .int e1, .int e2] (KC al) (RC al) I L (some (.int v)) I' L') := by
  induction d with
  | zero => intro w e1 e2 e3 e4 e5 I L v I' L' hf; exact (Option.some_ne_none _ hf.symm).elim
  | succ d ih =>
    intro w e1 e2 e3 e4 e5 I L v I' L' hf
    refine ?_
    exact fun hw => by
          subst hw
          exact am_intro (plainFor_of_name plX1) (fun _ _ => trivial) (Nat.le_of_ble_eq_true rfl) (fun x hl hc => by subst hl; exact j_sub (tX1_mostFrom_g n d (gX1_mostFrom n d) ih hc _ _ _ _ hf) (And.intro rfl (And.intro rfl (And.intro rfl (trivial)))))
def fX1_mostFrom (n d : Nat) (a1 : Int32) (a2 : Int32) (I : am_I) (L : am_L) : Option (Int32 × am_I × am_L) := gX1_mostFrom n d 0 a1 a2 0 0 0 I L
theorem qX1_mostFrom (l : Launch) {al : Bool} (n d : Nat) (a1 : Int32) (a2 : Int32) (I : am_I) (L : am_L) (r : Int32) (I' : am_I) (L' : am_L) (hf : fX1_mostFrom n d a1 a2 I L = some (r, I', L')) : am_C l yX1_mostFrom cX1_mostFrom 5 (some .int) (d + 2) [.ref 58, .int a1, .int a2] (KC al) (RC al) I L (some (.int r)) I' L' := by
  exact (cgX1_mostFrom l n d _ _ _ _ _ _ _ _ _ _ _ hf) rfl
set_option maxRecDepth 100000 in
def fX1_most (n d : Nat) (I : am_I) (L : am_L) : Option (Int32 × am_I × am_L) :=
  am_b3 (fX9_allBits_war n d I L) (fun v1 I1 L1 => am_b3 (fX1_mostFrom n d (0 : Int32) v1 I1 L1) (fun v2 I2 L2 => some (v2, I2, L2)))

set_option maxRecDepth 100000 in
set_option maxHeartbeats 4000000 in
theorem tX1_most {x : am_X} {al : Bool} (n d : Nat) (hc : am_ok x cX1_most yX1_most 1 (some .int) (d + 3) 0 0) {r : Int32} {I' : am_I} {L' : am_L} (I : am_I) (L : am_L) (hf : fX1_most n d I L = some (r, I', L')) : am_J x (fun S => S = (some (.int r), (KC al), (RC al), I', L')) 0 [some (.ref 58)] [] (KC al) (RC al) I L 0 0 := by
  unfold fX1_most at hf
  refine j_aload_n hc dX1_most_0 rfl ?_
  refine j_iconst (v := (0 : Int32)) hc dX1_most_1 ci_0 ?_
  refine j_aload_n hc dX1_most_2 rfl ?_
  refine j_getR (u := 3) hc dX1_most_3 (fgC_X1_19_58 _) (rC_58_0 _) ?_
  refine j_callVI (t := 3) (As := []) hc dX1_most_6 kw_1187 mX9_allBits (kC_3 _) clX9 rfl (by omega) (Nat.le_of_ble_eq_true rfl) (Nat.le_of_ble_eq_true rfl) ⟨Nat.le_refl _, Nat.le_refl _⟩ hf (fun v I' L' h => qX9_allBits_war x.2.1 n d I L v I' L' h) (fun v1 I1 L1 hf => ?_)
  refine j_callVI (t := 58) (As := [.int (0 : Int32), .int v1]) hc dX1_most_9 kw_1191 mX1_mostFrom (kC_58 _) clX1 rfl (by omega) (Nat.le_of_ble_eq_true rfl) (Nat.le_of_ble_eq_true rfl) ⟨Nat.le_refl _, Nat.le_refl _⟩ hf (fun v I' L' h => qX1_mostFrom x.2.1 n d (0 : Int32) v1 I1 L1 v I' L' h) (fun v2 I2 L2 hf => ?_)
  exact j_ireturn hc dX1_most_12 rfl rfl hf

set_option maxRecDepth 100000 in
theorem qX1_most (l : Launch) {al : Bool} (n d : Nat) (I : am_I) (L : am_L) (r : Int32) (I' : am_I) (L' : am_L) (hf : fX1_most n d I L = some (r, I', L')) : am_C l yX1_most cX1_most 1 (some .int) (d + 3) [.ref 58] (KC al) (RC al) I L (some (.int r)) I' L' := by
  exact am_intro (plainFor_of_name plX1) (fun _ _ => trivial) (Nat.le_of_ble_eq_true rfl) (fun x hl hc => by subst hl; exact j_sub (tX1_most n d hc  _ _ hf) (And.intro rfl (trivial)))
set_option maxRecDepth 100000 in
def fX1_lowestThatLeaves_b73 (n d : Nat) (k3 : Int32 → Int32 → Int32 → Int32 → am_I → am_L → Option (Int32 × am_I × am_L)) (a1 : Int32) (a2 : Int32) (a3 : Int32) (a4 : Int32) (I : am_I) (L : am_L) : Option (Int32 × am_I × am_L) :=
  am_lt (a4 + (1 : Int32)) (fun v1 => k3 a1 a2 a3 v1 I L)

set_option maxRecDepth 100000 in
set_option maxHeartbeats 4000000 in
theorem tX1_lowestThatLeaves_b73 {x : am_X} {al : Bool} (n d : Nat) (hc : am_ok x cX1_lowestThatLeaves yX1_lowestThatLeaves 6 (some .int) (d + 3) 0 0) {r : Int32} {I' : am_I} {L' : am_L} (k3 : Int32 → Int32 → Int32 → Int32 → am_I → am_L → Option (Int32 × am_I × am_L)) (hk3 : ∀ (a1 : Int32) (a2 : Int32) (a3 : Int32) (a4 : Int32) (I : am_I) (L : am_L), k3 a1 a2 a3 a4 I L = some (r, I', L') → am_J x (fun S => S = (some (.int r), (KC al), (RC al), I', L')) 3 [some (.ref 58), some (.int a1), some (.int a2), some (.int a3), some (.int a4), none] [] (KC al) (RC al) I L 0 0) (a1 : Int32) (a2 : Int32) (a3 : Int32) (a4 : Int32) (I : am_I) (L : am_L) (hf : fX1_lowestThatLeaves_b73 n d k3 a1 a2 a3 a4 I L = some (r, I', L')) : am_J x (fun S => S = (some (.int r), (KC al), (RC al), I', L')) 73 [some (.ref 58), some (.int a1), some (.int a2), some (.int a3), some (.int a4), none] [] (KC al) (RC al) I L 0 0 := by
  unfold fX1_lowestThatLeaves_b73 at hf
  refine j_iinc (w := (1 : Int32)) hc dX1_lowestThatLeaves_73 rfl ci_1 (Nat.le_of_ble_eq_true rfl) hf (fun v1 hf => ?_)
  refine j_goto (tgt := 3) hc dX1_lowestThatLeaves_76 rfl ?_
  exact j_sub (hk3 _ _ _ _ _ _ hf) (And.intro rfl (And.intro rfl (And.intro rfl (And.intro rfl (And.intro rfl (trivial))))))

set_option maxRecDepth 100000 in
def fX1_lowestThatLeaves_b42 (n d : Nat) (k3 : Int32 → Int32 → Int32 → Int32 → am_I → am_L → Option (Int32 × am_I × am_L)) (s0 : Int32) (a1 : Int32) (a2 : Int32) (a3 : Int32) (a4 : Int32) (I : am_I) (L : am_L) : Option (Int32 × am_I × am_L) :=
  am_lt s0 (fun v1 => if v1 = 0 then
    (fX1_lowestThatLeaves_b73 n d k3 a1 a2 a3 a4 I L)
    else
    (am_b3 (fX1_mostFrom n d (a1 + (1 : Int32)) (a2 &&& (((1 : Int32) <<< (a4 &&& 31)) ^^^ (-1 : Int32))) I L) (fun v2 I2 L2 => if ((1 : Int32) + v2) = a3 then
      (some (a4, I2, L2))
      else
      (fX1_lowestThatLeaves_b73 n d k3 a1 a2 a3 a4 I2 L2))))

set_option maxRecDepth 100000 in
set_option maxHeartbeats 4000000 in
theorem tX1_lowestThatLeaves_b42 {x : am_X} {al : Bool} (n d : Nat) (hc : am_ok x cX1_lowestThatLeaves yX1_lowestThatLeaves 6 (some .int) (d + 3) 0 0) {r : Int32} {I' : am_I} {L' : am_L} (k3 : Int32 → Int32 → Int32 → Int32 → am_I → am_L → Option (Int32 × am_I × am_L)) (hk3 : ∀ (a1 : Int32) (a2 : Int32) (a3 : Int32) (a4 : Int32) (I : am_I) (L : am_L), k3 a1 a2 a3 a4 I L = some (r, I', L') → am_J x (fun S => S = (some (.int r), (KC al), (RC al), I', L')) 3 [some (.ref 58), some (.int a1), some (.int a2), some (.int a3), some (.int a4), none] [] (KC al) (RC al) I L 0 0) (s0 : Int32) (a1 : Int32) (a2 : Int32) (a3 : Int32) (a4 : Int32) (I : am_I) (L : am_L) (hf : fX1_lowestThatLeaves_b42 n d k3 s0 a1 a2 a3 a4 I L = some (r, I', L')) : am_J x (fun S => S = (some (.int r), (KC al), (RC al), I', L')) 42 [some (.ref 58), some (.int a1), some (.int a2), some (.int a3), some (.int a4), none] [.int s0] (KC al) (RC al) I L 0 0 := by
  unfold fX1_lowestThatLeaves_b42 at hf
  refine j_istore hc dX1_lowestThatLeaves_42 (Nat.le_of_ble_eq_true rfl) hf (fun v1 hf => ?_)
  refine j_iload hc dX1_lowestThatLeaves_44 rfl ?_
  refine j_if_eq (tgt := 73) hc dX1_lowestThatLeaves_46 rfl hf (fun hf => ?_) (fun hf => ?_)
  · exact j_sub (tX1_lowestThatLeaves_b73 n d hc k3 hk3 _ _ _ _ _ _ hf) (And.intro rfl (And.intro rfl (And.intro rfl (And.intro rfl (And.intro rfl (trivial))))))
  · refine j_iconst (v := (1 : Int32)) hc dX1_lowestThatLeaves_49 ci_1 ?_
    refine j_aload_n hc dX1_lowestThatLeaves_50 rfl ?_
    refine j_iload_n hc dX1_lowestThatLeaves_51 rfl ?_
    refine j_iconst (v := (1 : Int32)) hc dX1_lowestThatLeaves_52 ci_1 ?_
    refine j_iadd hc dX1_lowestThatLeaves_53 ?_
    refine j_iload_n hc dX1_lowestThatLeaves_54 rfl ?_
    refine j_iconst (v := (1 : Int32)) hc dX1_lowestThatLeaves_55 ci_1 ?_
    refine j_iload hc dX1_lowestThatLeaves_56 rfl ?_
    refine j_ishl hc dX1_lowestThatLeaves_58 ?_
    refine j_iconst (v := (-1 : Int32)) hc dX1_lowestThatLeaves_59 ci_m1 ?_
    refine j_ixor hc dX1_lowestThatLeaves_60 ?_
    refine j_iand hc dX1_lowestThatLeaves_61 ?_
    refine j_callVI (t := 58) (As := [.int (a1 + (1 : Int32)), .int (a2 &&& (((1 : Int32) <<< (a4 &&& 31)) ^^^ (-1 : Int32)))]) hc dX1_lowestThatLeaves_62 kw_1191 mX1_mostFrom (kC_58 _) clX1 rfl (by omega) (Nat.le_of_ble_eq_true rfl) (Nat.le_of_ble_eq_true rfl) ⟨Nat.le_refl _, Nat.le_refl _⟩ hf (fun v I' L' h => qX1_mostFrom x.2.1 n d (a1 + (1 : Int32)) (a2 &&& (((1 : Int32) <<< (a4 &&& 31)) ^^^ (-1 : Int32))) I L v I' L' h) (fun v2 I2 L2 hf => ?_)
    refine j_iadd hc dX1_lowestThatLeaves_65 ?_
    refine j_iload_n hc dX1_lowestThatLeaves_66 rfl ?_
    refine j_icmp_ne (tgt := 73) hc dX1_lowestThatLeaves_67 rfl hf (fun hf => ?_) (fun hf => ?_)
    · exact j_sub (tX1_lowestThatLeaves_b73 n d hc k3 hk3 _ _ _ _ _ _ hf) (And.intro rfl (And.intro rfl (And.intro rfl (And.intro rfl (And.intro rfl (trivial))))))
    · refine j_iload hc dX1_lowestThatLeaves_70 rfl ?_
      exact j_ireturn hc dX1_lowestThatLeaves_72 rfl rfl hf

set_option maxRecDepth 100000 in
def fX1_lowestThatLeaves_b3w (n d : Nat) (k3 : Int32 → Int32 → Int32 → Int32 → am_I → am_L → Option (Int32 × am_I × am_L)) (a1 : Int32) (a2 : Int32) (a3 : Int32) (a4 : Int32) (I : am_I) (L : am_L) : Option (Int32 × am_I × am_L) :=
  if (I 3 0) ≤ a4 then
    (some ((9 : Int32), I, L))
    else
    (if (8 : Int32) ≤ a1 then
      (some ((9 : Int32), I, L))
      else
      (am_ck a1 8 (am_lt (I 59 (a1).toNatClampNeg) (fun v1 => if ((v1 &&& a2) &&& ((1 : Int32) <<< (a4 &&& 31))) = 0 then
        (fX1_lowestThatLeaves_b42 n d k3 (0 : Int32) a1 a2 a3 a4 I L)
        else
        (fX1_lowestThatLeaves_b42 n d k3 (1 : Int32) a1 a2 a3 a4 I L)))))

set_option maxRecDepth 100000 in
set_option maxHeartbeats 4000000 in
theorem tX1_lowestThatLeaves_b3w {x : am_X} {al : Bool} (n d : Nat) (hc : am_ok x cX1_lowestThatLeaves yX1_lowestThatLeaves 6 (some .int) (d + 3) 0 0) {r : Int32} {I' : am_I} {L' : am_L} (k3 : Int32 → Int32 → Int32 → Int32 → am_I → am_L → Option (Int32 × am_I × am_L)) (hk3 : ∀ (a1 : Int32) (a2 : Int32) (a3 : Int32) (a4 : Int32) (I : am_I) (L : am_L), k3 a1 a2 a3 a4 I L = some (r, I', L') → am_J x (fun S => S = (some (.int r), (KC al), (RC al), I', L')) 3 [some (.ref 58), some (.int a1), some (.int a2), some (.int a3), some (.int a4), none] [] (KC al) (RC al) I L 0 0) (a1 : Int32) (a2 : Int32) (a3 : Int32) (a4 : Int32) (I : am_I) (L : am_L) (hf : fX1_lowestThatLeaves_b3w n d k3 a1 a2 a3 a4 I L = some (r, I', L')) : am_J x (fun S => S = (some (.int r), (KC al), (RC al), I', L')) 3 [some (.ref 58), some (.int a1), some (.int a2), some (.int a3), some (.int a4), none] [] (KC al) (RC al) I L 0 0 := by
  unfold fX1_lowestThatLeaves_b3w at hf
  refine j_iload hc dX1_lowestThatLeaves_3 rfl ?_
  refine j_aload_n hc dX1_lowestThatLeaves_5 rfl ?_
  refine j_getR (u := 3) hc dX1_lowestThatLeaves_6 (fgC_X1_19_58 _) (rC_58_0 _) ?_
  refine j_getI hc dX1_lowestThatLeaves_9 (fgC_X1_27_3 _) ?_
  refine j_icmp_ge (tgt := 79) hc dX1_lowestThatLeaves_12 rfl hf (fun hf => ?_) (fun hf => ?_)
  · refine j_bipush (v := (9 : Int32)) hc dX1_lowestThatLeaves_79 cb_9 ?_
    exact j_ireturn hc dX1_lowestThatLeaves_81 rfl rfl hf
  · refine j_iload_n hc dX1_lowestThatLeaves_15 rfl ?_
    refine j_bipush (v := (8 : Int32)) hc dX1_lowestThatLeaves_16 cb_8 ?_
    refine j_icmp_ge (tgt := 79) hc dX1_lowestThatLeaves_18 rfl hf (fun hf => ?_) (fun hf => ?_)
    · refine j_bipush (v := (9 : Int32)) hc dX1_lowestThatLeaves_79 cb_9 ?_
      exact j_ireturn hc dX1_lowestThatLeaves_81 rfl rfl hf
    · refine j_aload_n hc dX1_lowestThatLeaves_21 rfl ?_
      refine j_getR (u := 59) hc dX1_lowestThatLeaves_22 (fgC_X1_9_58 _) (rC_58_2 _) ?_
      refine j_iload_n hc dX1_lowestThatLeaves_25 rfl ?_
      refine j_iaload (n := 8) hc dX1_lowestThatLeaves_26 (kC_59 _) hf (fun v1 hf => ?_)
      refine j_iload_n hc dX1_lowestThatLeaves_27 rfl ?_
      refine j_iand hc dX1_lowestThatLeaves_28 ?_
      refine j_iconst (v := (1 : Int32)) hc dX1_lowestThatLeaves_29 ci_1 ?_
      refine j_iload hc dX1_lowestThatLeaves_30 rfl ?_
      refine j_ishl hc dX1_lowestThatLeaves_32 ?_
      refine j_iand hc dX1_lowestThatLeaves_33 ?_
      refine j_if_eq (tgt := 41) hc dX1_lowestThatLeaves_34 rfl hf (fun hf => ?_) (fun hf => ?_)
      · refine j_iconst (v := (0 : Int32)) hc dX1_lowestThatLeaves_41 ci_0 ?_
        exact j_sub (tX1_lowestThatLeaves_b42 n d hc k3 hk3 _ _ _ _ _ _ _ hf) (And.intro rfl (And.intro rfl (And.intro rfl (And.intro rfl (And.intro rfl (trivial))))))
      · refine j_iconst (v := (1 : Int32)) hc dX1_lowestThatLeaves_37 ci_1 ?_
        refine j_goto (tgt := 42) hc dX1_lowestThatLeaves_38 rfl ?_
        exact j_sub (tX1_lowestThatLeaves_b42 n d hc k3 hk3 _ _ _ _ _ _ _ hf) (And.intro rfl (And.intro rfl (And.intro rfl (And.intro rfl (And.intro rfl (trivial))))))

def fX1_lowestThatLeaves_b3 (n d : Nat) : Nat → Int32 → Int32 → Int32 → Int32 → am_I → am_L → Option (Int32 × am_I × am_L)
  | 0 => fun _ _ _ _ _ _ => none
  | m + 1 => fX1_lowestThatLeaves_b3w n d  (fX1_lowestThatLeaves_b3 n d m)

set_option maxRecDepth 100000 in
theorem tX1_lowestThatLeaves_b3 {x : am_X} {al : Bool} (n d : Nat) (hc : am_ok x cX1_lowestThatLeaves yX1_lowestThatLeaves 6 (some .int) (d + 3) 0 0) {r : Int32} {I' : am_I} {L' : am_L} (m : Nat) : ∀ (a1 : Int32) (a2 : Int32) (a3 : Int32) (a4 : Int32) (I : am_I) (L : am_L) (hf : fX1_lowestThatLeaves_b3 n d m a1 a2 a3 a4 I L = some (r, I', L')), am_J x (fun S => S = (some (.int r), (KC al), (RC al), I', L')) 3 [some (.ref 58), some (.int a1), some (.int a2), some (.int a3), some (.int a4), none] [] (KC al) (RC al) I L 0 0 := by
  induction m with
  | zero => intro a1 a2 a3 a4 I L hf; exact (Option.some_ne_none _ hf.symm).elim
  | succ m ih => intro a1 a2 a3 a4 I L hf; exact tX1_lowestThatLeaves_b3w n d hc (fX1_lowestThatLeaves_b3 n d m) ih a1 a2 a3 a4 I L hf

set_option maxRecDepth 100000 in
def fX1_lowestThatLeaves (n d : Nat) (a1 : Int32) (a2 : Int32) (a3 : Int32) (I : am_I) (L : am_L) : Option (Int32 × am_I × am_L) :=
  am_lt (0 : Int32) (fun v1 => fX1_lowestThatLeaves_b3 n d n a1 a2 a3 v1 I L)

set_option maxRecDepth 100000 in
set_option maxHeartbeats 4000000 in
theorem tX1_lowestThatLeaves {x : am_X} {al : Bool} (n d : Nat) (hc : am_ok x cX1_lowestThatLeaves yX1_lowestThatLeaves 6 (some .int) (d + 3) 0 0) {r : Int32} {I' : am_I} {L' : am_L} (a1 : Int32) (a2 : Int32) (a3 : Int32) (I : am_I) (L : am_L) (hf : fX1_lowestThatLeaves n d a1 a2 a3 I L = some (r, I', L')) : am_J x (fun S => S = (some (.int r), (KC al), (RC al), I', L')) 0 [some (.ref 58), some (.int a1), some (.int a2), some (.int a3), none, none] [] (KC al) (RC al) I L 0 0 := by
  unfold fX1_lowestThatLeaves at hf
  refine j_iconst (v := (0 : Int32)) hc dX1_lowestThatLeaves_0 ci_0 ?_
  refine j_istore hc dX1_lowestThatLeaves_1 (Nat.le_of_ble_eq_true rfl) hf (fun v1 hf => ?_)
  exact j_sub (tX1_lowestThatLeaves_b3 n d hc n _ _ _ _ _ _ hf) (And.intro rfl (And.intro rfl (And.intro rfl (And.intro rfl (And.intro rfl (trivial))))))

set_option maxRecDepth 100000 in
theorem qX1_lowestThatLeaves (l : Launch) {al : Bool} (n d : Nat) (a1 : Int32) (a2 : Int32) (a3 : Int32) (I : am_I) (L : am_L) (r : Int32) (I' : am_I) (L' : am_L) (hf : fX1_lowestThatLeaves n d a1 a2 a3 I L = some (r, I', L')) : am_C l yX1_lowestThatLeaves cX1_lowestThatLeaves 6 (some .int) (d + 3) [.ref 58, .int a1, .int a2, .int a3] (KC al) (RC al) I L (some (.int r)) I' L' := by
  exact am_intro (plainFor_of_name plX1) (fun _ _ => trivial) (Nat.le_of_ble_eq_true rfl) (fun x hl hc => by subst hl; exact j_sub (tX1_lowestThatLeaves n d hc _ _ _ _ _ hf) (And.intro rfl (And.intro rfl (And.intro rfl (And.intro rfl (trivial))))))
set_option maxRecDepth 100000 in
def fX1_leastRow_b64 (n d : Nat) (k18 : Int32 → Int32 → Int32 → Int32 → am_I → am_L → Option (Int32 × am_I × am_L)) (a1 : Int32) (a2 : Int32) (a3 : Int32) (a4 : Int32) (I : am_I) (L : am_L) : Option (Int32 × am_I × am_L) :=
  am_lt (a4 + (1 : Int32)) (fun v1 => k18 a1 a2 a3 v1 I L)

set_option maxRecDepth 100000 in
set_option maxHeartbeats 4000000 in
theorem tX1_leastRow_b64 {x : am_X} {al : Bool} (n d : Nat) (hc : am_ok x cX1_leastRow yX1_leastRow 6 (some .int) (d + 4) 0 0) {r : Int32} {I' : am_I} {L' : am_L} (k18 : Int32 → Int32 → Int32 → Int32 → am_I → am_L → Option (Int32 × am_I × am_L)) (hk18 : ∀ (a1 : Int32) (a2 : Int32) (a3 : Int32) (a4 : Int32) (I : am_I) (L : am_L), k18 a1 a2 a3 a4 I L = some (r, I', L') → am_J x (fun S => S = (some (.int r), (KC al), (RC al), I', L')) 18 [some (.ref 58), some (.int a1), some (.int a2), some (.int a3), some (.int a4), none] [] (KC al) (RC al) I L 0 0) (a1 : Int32) (a2 : Int32) (a3 : Int32) (a4 : Int32) (I : am_I) (L : am_L) (hf : fX1_leastRow_b64 n d k18 a1 a2 a3 a4 I L = some (r, I', L')) : am_J x (fun S => S = (some (.int r), (KC al), (RC al), I', L')) 64 [some (.ref 58), some (.int a1), some (.int a2), some (.int a3), some (.int a4), none] [] (KC al) (RC al) I L 0 0 := by
  unfold fX1_leastRow_b64 at hf
  refine j_iinc (w := (1 : Int32)) hc dX1_leastRow_64 rfl ci_1 (Nat.le_of_ble_eq_true rfl) hf (fun v1 hf => ?_)
  refine j_goto (tgt := 18) hc dX1_leastRow_67 rfl ?_
  exact j_sub (hk18 _ _ _ _ _ _ hf) (And.intro rfl (And.intro rfl (And.intro rfl (And.intro rfl (And.intro rfl (trivial))))))

set_option maxRecDepth 100000 in
def fX1_leastRow_b18w (n d : Nat) (k18 : Int32 → Int32 → Int32 → Int32 → am_I → am_L → Option (Int32 × am_I × am_L)) (a1 : Int32) (a2 : Int32) (a3 : Int32) (a4 : Int32) (I : am_I) (L : am_L) : Option (Int32 × am_I × am_L) :=
  if (I 58 3) ≤ a4 then
    (some (a1, I, L))
    else
    (am_b3 (fX1_lowestThatLeaves n d a4 a2 a3 I L) (fun v1 I1 L1 => am_lt v1 (fun v2 => am_lt ((a1 * (10 : Int32)) + v2) (fun v3 => if v2 = (9 : Int32) then
      (fX1_leastRow_b64 n d k18 v3 a2 a3 a4 I1 L1)
      else
      (am_lt (a2 &&& (((1 : Int32) <<< (v2 &&& 31)) ^^^ (-1 : Int32))) (fun v4 => am_lt (a3 + (-1 : Int32)) (fun v5 => fX1_leastRow_b64 n d k18 v3 v4 v5 a4 I1 L1)))))))

set_option maxRecDepth 100000 in
set_option maxHeartbeats 4000000 in
theorem tX1_leastRow_b18w {x : am_X} {al : Bool} (n d : Nat) (hc : am_ok x cX1_leastRow yX1_leastRow 6 (some .int) (d + 4) 0 0) {r : Int32} {I' : am_I} {L' : am_L} (k18 : Int32 → Int32 → Int32 → Int32 → am_I → am_L → Option (Int32 × am_I × am_L)) (hk18 : ∀ (a1 : Int32) (a2 : Int32) (a3 : Int32) (a4 : Int32) (I : am_I) (L : am_L), k18 a1 a2 a3 a4 I L = some (r, I', L') → am_J x (fun S => S = (some (.int r), (KC al), (RC al), I', L')) 18 [some (.ref 58), some (.int a1), some (.int a2), some (.int a3), some (.int a4), none] [] (KC al) (RC al) I L 0 0) (a1 : Int32) (a2 : Int32) (a3 : Int32) (a4 : Int32) (I : am_I) (L : am_L) (hf : fX1_leastRow_b18w n d k18 a1 a2 a3 a4 I L = some (r, I', L')) : am_J x (fun S => S = (some (.int r), (KC al), (RC al), I', L')) 18 [some (.ref 58), some (.int a1), some (.int a2), some (.int a3), some (.int a4), none] [] (KC al) (RC al) I L 0 0 := by
  unfold fX1_leastRow_b18w at hf
  refine j_iload hc dX1_leastRow_18 rfl ?_
  refine j_aload_n hc dX1_leastRow_20 rfl ?_
  refine j_getI hc dX1_leastRow_21 (fgC_X1_15_58 _) ?_
  refine j_icmp_ge (tgt := 70) hc dX1_leastRow_24 rfl hf (fun hf => ?_) (fun hf => ?_)
  · refine j_iload_n hc dX1_leastRow_70 rfl ?_
    exact j_ireturn hc dX1_leastRow_71 rfl rfl hf
  · refine j_aload_n hc dX1_leastRow_27 rfl ?_
    refine j_iload hc dX1_leastRow_28 rfl ?_
    refine j_iload_n hc dX1_leastRow_30 rfl ?_
    refine j_iload_n hc dX1_leastRow_31 rfl ?_
    refine j_callVI (t := 58) (As := [.int a4, .int a2, .int a3]) hc dX1_leastRow_32 kw_1201 mX1_lowestThatLeaves (kC_58 _) clX1 rfl (by omega) (Nat.le_of_ble_eq_true rfl) (Nat.le_of_ble_eq_true rfl) ⟨Nat.le_refl _, Nat.le_refl _⟩ hf (fun v I' L' h => qX1_lowestThatLeaves x.2.1 n d a4 a2 a3 I L v I' L' h) (fun v1 I1 L1 hf => ?_)
    refine j_istore hc dX1_leastRow_35 (Nat.le_of_ble_eq_true rfl) hf (fun v2 hf => ?_)
    refine j_iload_n hc dX1_leastRow_37 rfl ?_
    refine j_bipush (v := (10 : Int32)) hc dX1_leastRow_38 cb_10 ?_
    refine j_imul hc dX1_leastRow_40 ?_
    refine j_iload hc dX1_leastRow_41 rfl ?_
    refine j_iadd hc dX1_leastRow_43 ?_
    refine j_istore_n hc dX1_leastRow_44 (Nat.le_of_ble_eq_true rfl) hf (fun v3 hf => ?_)
    refine j_iload hc dX1_leastRow_45 rfl ?_
    refine j_bipush (v := (9 : Int32)) hc dX1_leastRow_47 cb_9 ?_
    refine j_icmp_eq (tgt := 64) hc dX1_leastRow_49 rfl hf (fun hf => ?_) (fun hf => ?_)
    · exact j_sub (tX1_leastRow_b64 n d hc k18 hk18 _ _ _ _ _ _ hf) (And.intro rfl (And.intro rfl (And.intro rfl (And.intro rfl (And.intro rfl (trivial))))))
    · refine j_iload_n hc dX1_leastRow_52 rfl ?_
      refine j_iconst (v := (1 : Int32)) hc dX1_leastRow_53 ci_1 ?_
      refine j_iload hc dX1_leastRow_54 rfl ?_
      refine j_ishl hc dX1_leastRow_56 ?_
      refine j_iconst (v := (-1 : Int32)) hc dX1_leastRow_57 ci_m1 ?_
      refine j_ixor hc dX1_leastRow_58 ?_
      refine j_iand hc dX1_leastRow_59 ?_
      refine j_istore_n hc dX1_leastRow_60 (Nat.le_of_ble_eq_true rfl) hf (fun v4 hf => ?_)
      refine j_iinc (w := (-1 : Int32)) hc dX1_leastRow_61 rfl ci_m1 (Nat.le_of_ble_eq_true rfl) hf (fun v5 hf => ?_)
      exact j_sub (tX1_leastRow_b64 n d hc k18 hk18 _ _ _ _ _ _ hf) (And.intro rfl (And.intro rfl (And.intro rfl (And.intro rfl (And.intro rfl (trivial))))))

def fX1_leastRow_b18 (n d : Nat) : Nat → Int32 → Int32 → Int32 → Int32 → am_I → am_L → Option (Int32 × am_I × am_L)
  | 0 => fun _ _ _ _ _ _ => none
  | m + 1 => fX1_leastRow_b18w n d  (fX1_leastRow_b18 n d m)

set_option maxRecDepth 100000 in
theorem tX1_leastRow_b18 {x : am_X} {al : Bool} (n d : Nat) (hc : am_ok x cX1_leastRow yX1_leastRow 6 (some .int) (d + 4) 0 0) {r : Int32} {I' : am_I} {L' : am_L} (m : Nat) : ∀ (a1 : Int32) (a2 : Int32) (a3 : Int32) (a4 : Int32) (I : am_I) (L : am_L) (hf : fX1_leastRow_b18 n d m a1 a2 a3 a4 I L = some (r, I', L')), am_J x (fun S => S = (some (.int r), (KC al), (RC al), I', L')) 18 [some (.ref 58), some (.int a1), some (.int a2), some (.int a3), some (.int a4), none] [] (KC al) (RC al) I L 0 0 := by
  induction m with
  | zero => intro a1 a2 a3 a4 I L hf; exact (Option.some_ne_none _ hf.symm).elim
  | succ m ih => intro a1 a2 a3 a4 I L hf; exact tX1_leastRow_b18w n d hc (fX1_leastRow_b18 n d m) ih a1 a2 a3 a4 I L hf

set_option maxRecDepth 100000 in
def fX1_leastRow (n d : Nat) (I : am_I) (L : am_L) : Option (Int32 × am_I × am_L) :=
  am_lt (0 : Int32) (fun v1 => am_b3 (fX9_allBits_war n d I L) (fun v2 I2 L2 => am_lt v2 (fun v3 => am_b3 (fX1_most n d I2 L2) (fun v4 I4 L4 => am_lt v4 (fun v5 => am_lt (0 : Int32) (fun v6 => fX1_leastRow_b18 n d n v1 v3 v5 v6 I4 L4))))))

set_option maxRecDepth 100000 in
set_option maxHeartbeats 4000000 in
theorem tX1_leastRow {x : am_X} {al : Bool} (n d : Nat) (hc : am_ok x cX1_leastRow yX1_leastRow 6 (some .int) (d + 4) 0 0) {r : Int32} {I' : am_I} {L' : am_L} (I : am_I) (L : am_L) (hf : fX1_leastRow n d I L = some (r, I', L')) : am_J x (fun S => S = (some (.int r), (KC al), (RC al), I', L')) 0 [some (.ref 58), none, none, none, none, none] [] (KC al) (RC al) I L 0 0 := by
  unfold fX1_leastRow at hf
  refine j_iconst (v := (0 : Int32)) hc dX1_leastRow_0 ci_0 ?_
  refine j_istore_n hc dX1_leastRow_1 (Nat.le_of_ble_eq_true rfl) hf (fun v1 hf => ?_)
  refine j_aload_n hc dX1_leastRow_2 rfl ?_
  refine j_getR (u := 3) hc dX1_leastRow_3 (fgC_X1_19_58 _) (rC_58_0 _) ?_
  refine j_callVI (t := 3) (As := []) hc dX1_leastRow_6 kw_1187 mX9_allBits (kC_3 _) clX9 rfl (by omega) (Nat.le_of_ble_eq_true rfl) (Nat.le_of_ble_eq_true rfl) ⟨Nat.le_refl _, Nat.le_refl _⟩ hf (fun v I' L' h => qX9_allBits_war x.2.1 n d I L v I' L' h) (fun v2 I2 L2 hf => ?_)
  refine j_istore_n hc dX1_leastRow_9 (Nat.le_of_ble_eq_true rfl) hf (fun v3 hf => ?_)
  refine j_aload_n hc dX1_leastRow_10 rfl ?_
  refine j_callVI (t := 58) (As := []) hc dX1_leastRow_11 kw_1200 mX1_most (kC_58 _) clX1 rfl (by omega) (Nat.le_of_ble_eq_true rfl) (Nat.le_of_ble_eq_true rfl) ⟨Nat.le_refl _, Nat.le_refl _⟩ hf (fun v I' L' h => qX1_most x.2.1 n d I2 L2 v I' L' h) (fun v4 I4 L4 hf => ?_)
  refine j_istore_n hc dX1_leastRow_14 (Nat.le_of_ble_eq_true rfl) hf (fun v5 hf => ?_)
  refine j_iconst (v := (0 : Int32)) hc dX1_leastRow_15 ci_0 ?_
  refine j_istore hc dX1_leastRow_16 (Nat.le_of_ble_eq_true rfl) hf (fun v6 hf => ?_)
  exact j_sub (tX1_leastRow_b18 n d hc n _ _ _ _ _ _ hf) (And.intro rfl (And.intro rfl (And.intro rfl (And.intro rfl (And.intro rfl (trivial))))))

set_option maxRecDepth 100000 in
theorem qX1_leastRow (l : Launch) {al : Bool} (n d : Nat) (I : am_I) (L : am_L) (r : Int32) (I' : am_I) (L' : am_L) (hf : fX1_leastRow n d I L = some (r, I', L')) : am_C l yX1_leastRow cX1_leastRow 6 (some .int) (d + 4) [.ref 58] (KC al) (RC al) I L (some (.int r)) I' L' := by
  exact am_intro (plainFor_of_name plX1) (fun _ _ => trivial) (Nat.le_of_ble_eq_true rfl) (fun x hl hc => by subst hl; exact j_sub (tX1_leastRow n d hc  _ _ hf) (And.intro rfl (trivial)))
set_option maxRecDepth 100000 in
def fX11_escorts (n d : Nat) (a1 : Int32) (a2 : Int32) (I : am_I) (L : am_L) : Option (Int32 × am_I × am_L) :=
  am_b3 (fX11_isSideOfWar n d a1 I L) (fun v1 I1 L1 => if v1 = 0 then
    (some ((-1 : Int32), I1, L1))
    else
    (if a2 < 0 then
      (some ((-1 : Int32), I1, L1))
      else
      (if a2 ≤ (1 : Int32) then
        (am_b2 (fX1_gather n d a1 I1 L1) (fun I2 L2 => if a2 = 0 then
          (am_b3 (fX1_most n d I2 L2) (fun v4 I4 L4 => some (v4, I4, L4)))
          else
          (am_b3 (fX1_leastRow n d I2 L2) (fun v3 I3 L3 => some (v3, I3, L3)))))
        else
        (some ((-1 : Int32), I1, L1)))))

set_option maxRecDepth 100000 in
set_option maxHeartbeats 4000000 in
theorem tX11_escorts {x : am_X} {al : Bool} (n d : Nat) (hc : am_ok x cX11_escorts yX11_escorts 3 (some .int) (d + 5) 0 0) {r : Int32} {I' : am_I} {L' : am_L} (a1 : Int32) (a2 : Int32) (I : am_I) (L : am_L) (hf : fX11_escorts n d a1 a2 I L = some (r, I', L')) : am_J x (fun S => S = (some (.int r), (KC al), (RC al), I', L')) 0 [some (.ref 0), some (.int a1), some (.int a2)] [] (KC al) (RC al) I L 0 0 := by
  unfold fX11_escorts at hf
  refine j_aload_n hc dX11_escorts_0 rfl ?_
  refine j_iload_n hc dX11_escorts_1 rfl ?_
  refine j_callVI (t := 0) (As := [.int a1]) hc dX11_escorts_2 kw_1152 mX11_isSideOfWar (kC_0 _) clX11 rfl (by omega) (Nat.le_of_ble_eq_true rfl) (Nat.le_of_ble_eq_true rfl) ⟨Nat.le_refl _, Nat.le_refl _⟩ hf (fun v I' L' h => qX11_isSideOfWar x.2.1 n d a1 I L v I' L' h) (fun v1 I1 L1 hf => ?_)
  refine j_if_eq (tgt := 17) hc dX11_escorts_5 rfl hf (fun hf => ?_) (fun hf => ?_)
  · refine j_iconst (v := (-1 : Int32)) hc dX11_escorts_17 ci_m1 ?_
    exact j_ireturn hc dX11_escorts_18 rfl rfl hf
  · refine j_iload_n hc dX11_escorts_8 rfl ?_
    refine j_if_lt (tgt := 17) hc dX11_escorts_9 rfl hf (fun hf => ?_) (fun hf => ?_)
    · refine j_iconst (v := (-1 : Int32)) hc dX11_escorts_17 ci_m1 ?_
      exact j_ireturn hc dX11_escorts_18 rfl rfl hf
    · refine j_iload_n hc dX11_escorts_12 rfl ?_
      refine j_iconst (v := (1 : Int32)) hc dX11_escorts_13 ci_1 ?_
      refine j_icmp_le (tgt := 19) hc dX11_escorts_14 rfl hf (fun hf => ?_) (fun hf => ?_)
      · refine j_aload_n hc dX11_escorts_19 rfl ?_
        refine j_getR (u := 58) hc dX11_escorts_20 (fgC_X11_86_0 _) (rC_0_10 _) ?_
        refine j_iload_n hc dX11_escorts_23 rfl ?_
        refine j_callVV (t := 58) (As := [.int a1]) hc dX11_escorts_24 kw_1172 mX1_gather (kC_58 _) clX1 rfl (by omega) (Nat.le_of_ble_eq_true rfl) (Nat.le_of_ble_eq_true rfl) ⟨Nat.le_refl _, Nat.le_refl _⟩ hf (fun I' L' h => qX1_gather x.2.1 n d a1 I1 L1 I' L' h) (fun I2 L2 hf => ?_)
        refine j_iload_n hc dX11_escorts_27 rfl ?_
        refine j_if_ne (tgt := 41) hc dX11_escorts_28 rfl hf (fun hf => ?_) (fun hf => ?_)
        · refine j_aload_n hc dX11_escorts_41 rfl ?_
          refine j_getR (u := 58) hc dX11_escorts_42 (fgC_X11_86_0 _) (rC_0_10 _) ?_
          refine j_callVI (t := 58) (As := []) hc dX11_escorts_45 kw_1196 mX1_leastRow (kC_58 _) clX1 rfl (by omega) (Nat.le_of_ble_eq_true rfl) (Nat.le_of_ble_eq_true rfl) ⟨Nat.le_refl _, Nat.le_refl _⟩ hf (fun v I' L' h => qX1_leastRow x.2.1 n d I2 L2 v I' L' h) (fun v3 I3 L3 hf => ?_)
          exact j_ireturn hc dX11_escorts_48 rfl rfl hf
        · refine j_aload_n hc dX11_escorts_31 rfl ?_
          refine j_getR (u := 58) hc dX11_escorts_32 (fgC_X11_86_0 _) (rC_0_10 _) ?_
          refine j_callVI (t := 58) (As := []) hc dX11_escorts_35 kw_1183 mX1_most (kC_58 _) clX1 rfl (by omega) (Nat.le_of_ble_eq_true rfl) (Nat.le_of_ble_eq_true rfl) ⟨Nat.le_refl _, Nat.le_refl _⟩ hf (fun v I' L' h => qX1_most x.2.1 n d I2 L2 v I' L' h) (fun v4 I4 L4 hf => ?_)
          refine j_goto (tgt := 48) hc dX11_escorts_38 rfl ?_
          exact j_ireturn hc dX11_escorts_48 rfl rfl hf
      · refine j_iconst (v := (-1 : Int32)) hc dX11_escorts_17 ci_m1 ?_
        exact j_ireturn hc dX11_escorts_18 rfl rfl hf

set_option maxRecDepth 100000 in
theorem qX11_escorts (l : Launch) {al : Bool} (n d : Nat) (a1 : Int32) (a2 : Int32) (I : am_I) (L : am_L) (r : Int32) (I' : am_I) (L' : am_L) (hf : fX11_escorts n d a1 a2 I L = some (r, I', L')) : am_C l yX11_escorts cX11_escorts 3 (some .int) (d + 5) [.ref 0, .int a1, .int a2] (KC al) (RC al) I L (some (.int r)) I' L' := by
  exact am_intro (plainFor_of_name plX11) (fun _ _ => trivial) (Nat.le_of_ble_eq_true rfl) (fun x hl hc => by subst hl; exact j_sub (tX11_escorts n d hc _ _ _ _ hf) (And.intro rfl (And.intro rfl (And.intro rfl (trivial)))))
set_option maxRecDepth 100000 in
def fX11_loopholeBits_b44 (n d : Nat) (k4 : Int32 → Int32 → Int32 → am_I → am_L → Option (Int32 × am_I × am_L)) (a1 : Int32) (a2 : Int32) (a3 : Int32) (I : am_I) (L : am_L) : Option (Int32 × am_I × am_L) :=
  am_lt (a3 + (1 : Int32)) (fun v1 => k4 a1 a2 v1 I L)

set_option maxRecDepth 100000 in
set_option maxHeartbeats 4000000 in
theorem tX11_loopholeBits_b44 {x : am_X} {al : Bool} (n d : Nat) (hc : am_ok x cX11_loopholeBits yX11_loopholeBits 4 (some .int) (d + 4) 0 0) {r : Int32} {I' : am_I} {L' : am_L} (k4 : Int32 → Int32 → Int32 → am_I → am_L → Option (Int32 × am_I × am_L)) (hk4 : ∀ (a1 : Int32) (a2 : Int32) (a3 : Int32) (I : am_I) (L : am_L), k4 a1 a2 a3 I L = some (r, I', L') → am_J x (fun S => S = (some (.int r), (KC al), (RC al), I', L')) 4 [some (.ref 0), some (.int a1), some (.int a2), some (.int a3)] [] (KC al) (RC al) I L 0 0) (a1 : Int32) (a2 : Int32) (a3 : Int32) (I : am_I) (L : am_L) (hf : fX11_loopholeBits_b44 n d k4 a1 a2 a3 I L = some (r, I', L')) : am_J x (fun S => S = (some (.int r), (KC al), (RC al), I', L')) 44 [some (.ref 0), some (.int a1), some (.int a2), some (.int a3)] [] (KC al) (RC al) I L 0 0 := by
  unfold fX11_loopholeBits_b44 at hf
  refine j_iinc (w := (1 : Int32)) hc dX11_loopholeBits_44 rfl ci_1 (Nat.le_of_ble_eq_true rfl) hf (fun v1 hf => ?_)
  refine j_goto (tgt := 4) hc dX11_loopholeBits_47 rfl ?_
  exact j_sub (hk4 _ _ _ _ _ hf) (And.intro rfl (And.intro rfl (And.intro rfl (And.intro rfl (trivial)))))

set_option maxRecDepth 100000 in
def fX11_loopholeBits_b4w (n d : Nat) (k4 : Int32 → Int32 → Int32 → am_I → am_L → Option (Int32 × am_I × am_L)) (a1 : Int32) (a2 : Int32) (a3 : Int32) (I : am_I) (L : am_L) : Option (Int32 × am_I × am_L) :=
  if (I 3 0) ≤ a3 then
    (some (a2, I, L))
    else
    (am_b3 (fX7_canGo n d a3 I L) (fun v1 I1 L1 => if v1 = 0 then
      (fX11_loopholeBits_b44 n d k4 a1 a2 a3 I1 L1)
      else
      (am_b3 (fX7_isHomeBy n d a1 a3 I1 L1) (fun v2 I2 L2 => if v2 = 0 then
        (fX11_loopholeBits_b44 n d k4 a1 a2 a3 I2 L2)
        else
        (am_lt (a2 ||| ((1 : Int32) <<< (a3 &&& 31))) (fun v3 => fX11_loopholeBits_b44 n d k4 a1 v3 a3 I2 L2))))))

set_option maxRecDepth 100000 in
set_option maxHeartbeats 4000000 in
theorem tX11_loopholeBits_b4w {x : am_X} {al : Bool} (n d : Nat) (hc : am_ok x cX11_loopholeBits yX11_loopholeBits 4 (some .int) (d + 4) 0 0) {r : Int32} {I' : am_I} {L' : am_L} (k4 : Int32 → Int32 → Int32 → am_I → am_L → Option (Int32 × am_I × am_L)) (hk4 : ∀ (a1 : Int32) (a2 : Int32) (a3 : Int32) (I : am_I) (L : am_L), k4 a1 a2 a3 I L = some (r, I', L') → am_J x (fun S => S = (some (.int r), (KC al), (RC al), I', L')) 4 [some (.ref 0), some (.int a1), some (.int a2), some (.int a3)] [] (KC al) (RC al) I L 0 0) (a1 : Int32) (a2 : Int32) (a3 : Int32) (I : am_I) (L : am_L) (hf : fX11_loopholeBits_b4w n d k4 a1 a2 a3 I L = some (r, I', L')) : am_J x (fun S => S = (some (.int r), (KC al), (RC al), I', L')) 4 [some (.ref 0), some (.int a1), some (.int a2), some (.int a3)] [] (KC al) (RC al) I L 0 0 := by
  unfold fX11_loopholeBits_b4w at hf
  refine j_iload_n hc dX11_loopholeBits_4 rfl ?_
  refine j_aload_n hc dX11_loopholeBits_5 rfl ?_
  refine j_getR (u := 3) hc dX11_loopholeBits_6 (fgC_X11_19_0 _) (rC_0_1 _) ?_
  refine j_getI hc dX11_loopholeBits_9 (fgC_X11_151_3 _) ?_
  refine j_icmp_ge (tgt := 50) hc dX11_loopholeBits_12 rfl hf (fun hf => ?_) (fun hf => ?_)
  · refine j_iload_n hc dX11_loopholeBits_50 rfl ?_
    exact j_ireturn hc dX11_loopholeBits_51 rfl rfl hf
  · refine j_aload_n hc dX11_loopholeBits_15 rfl ?_
    refine j_getR (u := 39) hc dX11_loopholeBits_16 (fgC_X11_56_0 _) (rC_0_6 _) ?_
    refine j_iload_n hc dX11_loopholeBits_19 rfl ?_
    refine j_callVI (t := 39) (As := [.int a3]) hc dX11_loopholeBits_20 kw_916 mX7_canGo (kC_39 _) clX7 rfl (by omega) (Nat.le_of_ble_eq_true rfl) (Nat.le_of_ble_eq_true rfl) ⟨Nat.le_refl _, Nat.le_refl _⟩ hf (fun v I' L' h => qX7_canGo x.2.1 n d a3 I L v I' L' h) (fun v1 I1 L1 hf => ?_)
    refine j_if_eq (tgt := 44) hc dX11_loopholeBits_23 rfl hf (fun hf => ?_) (fun hf => ?_)
    · exact j_sub (tX11_loopholeBits_b44 n d hc k4 hk4 _ _ _ _ _ hf) (And.intro rfl (And.intro rfl (And.intro rfl (And.intro rfl (trivial)))))
    · refine j_aload_n hc dX11_loopholeBits_26 rfl ?_
      refine j_getR (u := 39) hc dX11_loopholeBits_27 (fgC_X11_56_0 _) (rC_0_6 _) ?_
      refine j_iload_n hc dX11_loopholeBits_30 rfl ?_
      refine j_iload_n hc dX11_loopholeBits_31 rfl ?_
      refine j_callVI (t := 39) (As := [.int a1, .int a3]) hc dX11_loopholeBits_32 kw_1213 mX7_isHomeBy (kC_39 _) clX7 rfl (by omega) (Nat.le_of_ble_eq_true rfl) (Nat.le_of_ble_eq_true rfl) ⟨Nat.le_refl _, Nat.le_refl _⟩ hf (fun v I' L' h => qX7_isHomeBy x.2.1 n d a1 a3 I1 L1 v I' L' h) (fun v2 I2 L2 hf => ?_)
      refine j_if_eq (tgt := 44) hc dX11_loopholeBits_35 rfl hf (fun hf => ?_) (fun hf => ?_)
      · exact j_sub (tX11_loopholeBits_b44 n d hc k4 hk4 _ _ _ _ _ hf) (And.intro rfl (And.intro rfl (And.intro rfl (And.intro rfl (trivial)))))
      · refine j_iload_n hc dX11_loopholeBits_38 rfl ?_
        refine j_iconst (v := (1 : Int32)) hc dX11_loopholeBits_39 ci_1 ?_
        refine j_iload_n hc dX11_loopholeBits_40 rfl ?_
        refine j_ishl hc dX11_loopholeBits_41 ?_
        refine j_ior hc dX11_loopholeBits_42 ?_
        refine j_istore_n hc dX11_loopholeBits_43 (Nat.le_of_ble_eq_true rfl) hf (fun v3 hf => ?_)
        exact j_sub (tX11_loopholeBits_b44 n d hc k4 hk4 _ _ _ _ _ hf) (And.intro rfl (And.intro rfl (And.intro rfl (And.intro rfl (trivial)))))

def fX11_loopholeBits_b4 (n d : Nat) : Nat → Int32 → Int32 → Int32 → am_I → am_L → Option (Int32 × am_I × am_L)
  | 0 => fun _ _ _ _ _ => none
  | m + 1 => fX11_loopholeBits_b4w n d  (fX11_loopholeBits_b4 n d m)

set_option maxRecDepth 100000 in
theorem tX11_loopholeBits_b4 {x : am_X} {al : Bool} (n d : Nat) (hc : am_ok x cX11_loopholeBits yX11_loopholeBits 4 (some .int) (d + 4) 0 0) {r : Int32} {I' : am_I} {L' : am_L} (m : Nat) : ∀ (a1 : Int32) (a2 : Int32) (a3 : Int32) (I : am_I) (L : am_L) (hf : fX11_loopholeBits_b4 n d m a1 a2 a3 I L = some (r, I', L')), am_J x (fun S => S = (some (.int r), (KC al), (RC al), I', L')) 4 [some (.ref 0), some (.int a1), some (.int a2), some (.int a3)] [] (KC al) (RC al) I L 0 0 := by
  induction m with
  | zero => intro a1 a2 a3 I L hf; exact (Option.some_ne_none _ hf.symm).elim
  | succ m ih => intro a1 a2 a3 I L hf; exact tX11_loopholeBits_b4w n d hc (fX11_loopholeBits_b4 n d m) ih a1 a2 a3 I L hf

set_option maxRecDepth 100000 in
def fX11_loopholeBits (n d : Nat) (a1 : Int32) (I : am_I) (L : am_L) : Option (Int32 × am_I × am_L) :=
  am_lt (0 : Int32) (fun v1 => am_lt (0 : Int32) (fun v2 => fX11_loopholeBits_b4 n d n a1 v1 v2 I L))

set_option maxRecDepth 100000 in
set_option maxHeartbeats 4000000 in
theorem tX11_loopholeBits {x : am_X} {al : Bool} (n d : Nat) (hc : am_ok x cX11_loopholeBits yX11_loopholeBits 4 (some .int) (d + 4) 0 0) {r : Int32} {I' : am_I} {L' : am_L} (a1 : Int32) (I : am_I) (L : am_L) (hf : fX11_loopholeBits n d a1 I L = some (r, I', L')) : am_J x (fun S => S = (some (.int r), (KC al), (RC al), I', L')) 0 [some (.ref 0), some (.int a1), none, none] [] (KC al) (RC al) I L 0 0 := by
  unfold fX11_loopholeBits at hf
  refine j_iconst (v := (0 : Int32)) hc dX11_loopholeBits_0 ci_0 ?_
  refine j_istore_n hc dX11_loopholeBits_1 (Nat.le_of_ble_eq_true rfl) hf (fun v1 hf => ?_)
  refine j_iconst (v := (0 : Int32)) hc dX11_loopholeBits_2 ci_0 ?_
  refine j_istore_n hc dX11_loopholeBits_3 (Nat.le_of_ble_eq_true rfl) hf (fun v2 hf => ?_)
  exact j_sub (tX11_loopholeBits_b4 n d hc n _ _ _ _ _ hf) (And.intro rfl (And.intro rfl (And.intro rfl (And.intro rfl (trivial)))))

set_option maxRecDepth 100000 in
theorem qX11_loopholeBits (l : Launch) {al : Bool} (n d : Nat) (a1 : Int32) (I : am_I) (L : am_L) (r : Int32) (I' : am_I) (L' : am_L) (hf : fX11_loopholeBits n d a1 I L = some (r, I', L')) : am_C l yX11_loopholeBits cX11_loopholeBits 4 (some .int) (d + 4) [.ref 0, .int a1] (KC al) (RC al) I L (some (.int r)) I' L' := by
  exact am_intro (plainFor_of_name plX11) (fun _ _ => trivial) (Nat.le_of_ble_eq_true rfl) (fun x hl hc => by subst hl; exact j_sub (tX11_loopholeBits n d hc _ _ _ hf) (And.intro rfl (And.intro rfl (trivial))))
set_option maxRecDepth 100000 in
def fX11_loophole (n d : Nat) (a1 : Int32) (I : am_I) (L : am_L) : Option (Int32 × am_I × am_L) :=
  am_b3 (fX3_has n d a1 I L) (fun v1 I1 L1 => if v1 = 0 then
    (some ((-1 : Int32), I1, L1))
    else
    (if (I1 3 0) ≤ 0 then
      (some ((-1 : Int32), I1, L1))
      else
      (am_b3 (fX11_loopholeBits n d a1 I1 L1) (fun v2 I2 L2 => some (v2, I2, L2)))))

set_option maxRecDepth 100000 in
set_option maxHeartbeats 4000000 in
theorem tX11_loophole {x : am_X} {al : Bool} (n d : Nat) (hc : am_ok x cX11_loophole yX11_loophole 2 (some .int) (d + 5) 0 0) {r : Int32} {I' : am_I} {L' : am_L} (a1 : Int32) (I : am_I) (L : am_L) (hf : fX11_loophole n d a1 I L = some (r, I', L')) : am_J x (fun S => S = (some (.int r), (KC al), (RC al), I', L')) 0 [some (.ref 0), some (.int a1)] [] (KC al) (RC al) I L 0 0 := by
  unfold fX11_loophole at hf
  refine j_aload_n hc dX11_loophole_0 rfl ?_
  refine j_getR (u := 29) hc dX11_loophole_1 (fgC_X11_47_0 _) (rC_0_5 _) ?_
  refine j_iload_n hc dX11_loophole_4 rfl ?_
  refine j_callVI (t := 29) (As := [.int a1]) hc dX11_loophole_5 kw_871 mX3_has (kC_29 _) clX3 rfl (by omega) (Nat.le_of_ble_eq_true rfl) (Nat.le_of_ble_eq_true rfl) ⟨Nat.le_refl _, Nat.le_refl _⟩ hf (fun v I' L' h => qX3_has x.2.1 n d a1 I L v I' L' h) (fun v1 I1 L1 hf => ?_)
  refine j_if_eq (tgt := 29) hc dX11_loophole_8 rfl hf (fun hf => ?_) (fun hf => ?_)
  · refine j_iconst (v := (-1 : Int32)) hc dX11_loophole_29 ci_m1 ?_
    exact j_ireturn hc dX11_loophole_30 rfl rfl hf
  · refine j_aload_n hc dX11_loophole_11 rfl ?_
    refine j_getR (u := 3) hc dX11_loophole_12 (fgC_X11_19_0 _) (rC_0_1 _) ?_
    refine j_getI hc dX11_loophole_15 (fgC_X11_151_3 _) ?_
    refine j_if_le (tgt := 29) hc dX11_loophole_18 rfl hf (fun hf => ?_) (fun hf => ?_)
    · refine j_iconst (v := (-1 : Int32)) hc dX11_loophole_29 ci_m1 ?_
      exact j_ireturn hc dX11_loophole_30 rfl rfl hf
    · refine j_aload_n hc dX11_loophole_21 rfl ?_
      refine j_iload_n hc dX11_loophole_22 rfl ?_
      refine j_callVI (t := 0) (As := [.int a1]) hc dX11_loophole_23 kw_1209 mX11_loopholeBits (kC_0 _) clX11 rfl (by omega) (Nat.le_of_ble_eq_true rfl) (Nat.le_of_ble_eq_true rfl) ⟨Nat.le_refl _, Nat.le_refl _⟩ hf (fun v I' L' h => qX11_loopholeBits x.2.1 n d a1 I1 L1 v I' L' h) (fun v2 I2 L2 hf => ?_)
      refine j_goto (tgt := 30) hc dX11_loophole_26 rfl ?_
      exact j_ireturn hc dX11_loophole_30 rfl rfl hf

set_option maxRecDepth 100000 in
theorem qX11_loophole (l : Launch) {al : Bool} (n d : Nat) (a1 : Int32) (I : am_I) (L : am_L) (r : Int32) (I' : am_I) (L' : am_L) (hf : fX11_loophole n d a1 I L = some (r, I', L')) : am_C l yX11_loophole cX11_loophole 2 (some .int) (d + 5) [.ref 0, .int a1] (KC al) (RC al) I L (some (.int r)) I' L' := by
  exact am_intro (plainFor_of_name plX11) (fun _ _ => trivial) (Nat.le_of_ble_eq_true rfl) (fun x hl hc => by subst hl; exact j_sub (tX11_loophole n d hc _ _ _ hf) (And.intro rfl (And.intro rfl (trivial))))
set_option maxRecDepth 100000 in
def fX3_throughAll_b36 (n d : Nat) (k4 : Int32 → Int32 → Int32 → am_I → am_L → Option (Int32 × am_I × am_L)) (s0 : Int32) (s1 : Int32) (a1 : Int32) (a3 : Int32) (I : am_I) (L : am_L) : Option (Int32 × am_I × am_L) :=
  am_lt (s0 &&& s1) (fun v1 => am_lt (a3 + (1 : Int32)) (fun v2 => k4 a1 v1 v2 I L))

set_option maxRecDepth 100000 in
set_option maxHeartbeats 4000000 in
theorem tX3_throughAll_b36 {x : am_X} {al : Bool} (n d : Nat) (hc : am_ok x cX3_throughAll yX3_throughAll 4 (some .int) (d + 1) 0 0) {r : Int32} {I' : am_I} {L' : am_L} (k4 : Int32 → Int32 → Int32 → am_I → am_L → Option (Int32 × am_I × am_L)) (hk4 : ∀ (a1 : Int32) (a2 : Int32) (a3 : Int32) (I : am_I) (L : am_L), k4 a1 a2 a3 I L = some (r, I', L') → am_J x (fun S => S = (some (.int r), (KC al), (RC al), I', L')) 4 [some (.ref 29), some (.int a1), some (.int a2), some (.int a3)] [] (KC al) (RC al) I L 0 0) (s0 : Int32) (s1 : Int32) (a1 : Int32) (a3 : Int32) (I : am_I) (L : am_L) (hf : fX3_throughAll_b36 n d k4 s0 s1 a1 a3 I L = some (r, I', L')) : am_J x (fun S => S = (some (.int r), (KC al), (RC al), I', L')) 36 [some (.ref 29), some (.int a1), none, some (.int a3)] [.int s1, .int s0] (KC al) (RC al) I L 0 0 := by
  unfold fX3_throughAll_b36 at hf
  refine j_iand hc dX3_throughAll_36 ?_
  refine j_istore_n hc dX3_throughAll_37 (Nat.le_of_ble_eq_true rfl) hf (fun v1 hf => ?_)
  refine j_iinc (w := (1 : Int32)) hc dX3_throughAll_38 rfl ci_1 (Nat.le_of_ble_eq_true rfl) hf (fun v2 hf => ?_)
  refine j_goto (tgt := 4) hc dX3_throughAll_41 rfl ?_
  exact j_sub (hk4 _ _ _ _ _ hf) (And.intro rfl (And.intro rfl (And.intro rfl (And.intro rfl (trivial)))))

set_option maxRecDepth 100000 in
def fX3_throughAll_b4w (n d : Nat) (k4 : Int32 → Int32 → Int32 → am_I → am_L → Option (Int32 × am_I × am_L)) (a1 : Int32) (a2 : Int32) (a3 : Int32) (I : am_I) (L : am_L) : Option (Int32 × am_I × am_L) :=
  if (I 29 5) ≤ a3 then
    (some (a2, I, L))
    else
    (if (4 : Int32) ≤ a3 then
      (some (a2, I, L))
      else
      (if ((a1 >>> (a3 &&& 31)) &&& (1 : Int32)) = 0 then
        (fX3_throughAll_b36 n d k4 a2 (-1 : Int32) a1 a3 I L)
        else
        (am_ck a3 4 (am_lt (I 38 (a3).toNatClampNeg) (fun v1 => fX3_throughAll_b36 n d k4 a2 v1 a1 a3 I L)))))

set_option maxRecDepth 100000 in
set_option maxHeartbeats 4000000 in
theorem tX3_throughAll_b4w {x : am_X} {al : Bool} (n d : Nat) (hc : am_ok x cX3_throughAll yX3_throughAll 4 (some .int) (d + 1) 0 0) {r : Int32} {I' : am_I} {L' : am_L} (k4 : Int32 → Int32 → Int32 → am_I → am_L → Option (Int32 × am_I × am_L)) (hk4 : ∀ (a1 : Int32) (a2 : Int32) (a3 : Int32) (I : am_I) (L : am_L), k4 a1 a2 a3 I L = some (r, I', L') → am_J x (fun S => S = (some (.int r), (KC al), (RC al), I', L')) 4 [some (.ref 29), some (.int a1), some (.int a2), some (.int a3)] [] (KC al) (RC al) I L 0 0) (a1 : Int32) (a2 : Int32) (a3 : Int32) (I : am_I) (L : am_L) (hf : fX3_throughAll_b4w n d k4 a1 a2 a3 I L = some (r, I', L')) : am_J x (fun S => S = (some (.int r), (KC al), (RC al), I', L')) 4 [some (.ref 29), some (.int a1), some (.int a2), some (.int a3)] [] (KC al) (RC al) I L 0 0 := by
  unfold fX3_throughAll_b4w at hf
  refine j_iload_n hc dX3_throughAll_4 rfl ?_
  refine j_aload_n hc dX3_throughAll_5 rfl ?_
  refine j_getI hc dX3_throughAll_6 (fgC_X3_31_29 _) ?_
  refine j_icmp_ge (tgt := 44) hc dX3_throughAll_9 rfl hf (fun hf => ?_) (fun hf => ?_)
  · refine j_iload_n hc dX3_throughAll_44 rfl ?_
    exact j_ireturn hc dX3_throughAll_45 rfl rfl hf
  · refine j_iload_n hc dX3_throughAll_12 rfl ?_
    refine j_iconst (v := (4 : Int32)) hc dX3_throughAll_13 ci_4 ?_
    refine j_icmp_ge (tgt := 44) hc dX3_throughAll_14 rfl hf (fun hf => ?_) (fun hf => ?_)
    · refine j_iload_n hc dX3_throughAll_44 rfl ?_
      exact j_ireturn hc dX3_throughAll_45 rfl rfl hf
    · refine j_iload_n hc dX3_throughAll_17 rfl ?_
      refine j_iload_n hc dX3_throughAll_18 rfl ?_
      refine j_iload_n hc dX3_throughAll_19 rfl ?_
      refine j_ishr hc dX3_throughAll_20 ?_
      refine j_iconst (v := (1 : Int32)) hc dX3_throughAll_21 ci_1 ?_
      refine j_iand hc dX3_throughAll_22 ?_
      refine j_if_eq (tgt := 35) hc dX3_throughAll_23 rfl hf (fun hf => ?_) (fun hf => ?_)
      · refine j_iconst (v := (-1 : Int32)) hc dX3_throughAll_35 ci_m1 ?_
        exact j_sub (tX3_throughAll_b36 n d hc k4 hk4 _ _ _ _ _ _ hf) (And.intro rfl (And.intro rfl (And.intro rfl (trivial))))
      · refine j_aload_n hc dX3_throughAll_26 rfl ?_
        refine j_getR (u := 38) hc dX3_throughAll_27 (fgC_X3_28_29 _) (rC_29_4 _) ?_
        refine j_iload_n hc dX3_throughAll_30 rfl ?_
        refine j_iaload (n := 4) hc dX3_throughAll_31 (kC_38 _) hf (fun v1 hf => ?_)
        refine j_goto (tgt := 36) hc dX3_throughAll_32 rfl ?_
        exact j_sub (tX3_throughAll_b36 n d hc k4 hk4 _ _ _ _ _ _ hf) (And.intro rfl (And.intro rfl (And.intro rfl (trivial))))

def fX3_throughAll_b4 (n d : Nat) : Nat → Int32 → Int32 → Int32 → am_I → am_L → Option (Int32 × am_I × am_L)
  | 0 => fun _ _ _ _ _ => none
  | m + 1 => fX3_throughAll_b4w n d  (fX3_throughAll_b4 n d m)

set_option maxRecDepth 100000 in
theorem tX3_throughAll_b4 {x : am_X} {al : Bool} (n d : Nat) (hc : am_ok x cX3_throughAll yX3_throughAll 4 (some .int) (d + 1) 0 0) {r : Int32} {I' : am_I} {L' : am_L} (m : Nat) : ∀ (a1 : Int32) (a2 : Int32) (a3 : Int32) (I : am_I) (L : am_L) (hf : fX3_throughAll_b4 n d m a1 a2 a3 I L = some (r, I', L')), am_J x (fun S => S = (some (.int r), (KC al), (RC al), I', L')) 4 [some (.ref 29), some (.int a1), some (.int a2), some (.int a3)] [] (KC al) (RC al) I L 0 0 := by
  induction m with
  | zero => intro a1 a2 a3 I L hf; exact (Option.some_ne_none _ hf.symm).elim
  | succ m ih => intro a1 a2 a3 I L hf; exact tX3_throughAll_b4w n d hc (fX3_throughAll_b4 n d m) ih a1 a2 a3 I L hf

set_option maxRecDepth 100000 in
def fX3_throughAll (n d : Nat) (a1 : Int32) (I : am_I) (L : am_L) : Option (Int32 × am_I × am_L) :=
  am_lt (-1 : Int32) (fun v1 => am_lt (0 : Int32) (fun v2 => fX3_throughAll_b4 n d n a1 v1 v2 I L))

set_option maxRecDepth 100000 in
set_option maxHeartbeats 4000000 in
theorem tX3_throughAll {x : am_X} {al : Bool} (n d : Nat) (hc : am_ok x cX3_throughAll yX3_throughAll 4 (some .int) (d + 1) 0 0) {r : Int32} {I' : am_I} {L' : am_L} (a1 : Int32) (I : am_I) (L : am_L) (hf : fX3_throughAll n d a1 I L = some (r, I', L')) : am_J x (fun S => S = (some (.int r), (KC al), (RC al), I', L')) 0 [some (.ref 29), some (.int a1), none, none] [] (KC al) (RC al) I L 0 0 := by
  unfold fX3_throughAll at hf
  refine j_iconst (v := (-1 : Int32)) hc dX3_throughAll_0 ci_m1 ?_
  refine j_istore_n hc dX3_throughAll_1 (Nat.le_of_ble_eq_true rfl) hf (fun v1 hf => ?_)
  refine j_iconst (v := (0 : Int32)) hc dX3_throughAll_2 ci_0 ?_
  refine j_istore_n hc dX3_throughAll_3 (Nat.le_of_ble_eq_true rfl) hf (fun v2 hf => ?_)
  exact j_sub (tX3_throughAll_b4 n d hc n _ _ _ _ _ hf) (And.intro rfl (And.intro rfl (And.intro rfl (And.intro rfl (trivial)))))

set_option maxRecDepth 100000 in
theorem qX3_throughAll (l : Launch) {al : Bool} (n d : Nat) (a1 : Int32) (I : am_I) (L : am_L) (r : Int32) (I' : am_I) (L' : am_L) (hf : fX3_throughAll n d a1 I L = some (r, I', L')) : am_C l yX3_throughAll cX3_throughAll 4 (some .int) (d + 1) [.ref 29, .int a1] (KC al) (RC al) I L (some (.int r)) I' L' := by
  exact am_intro (plainFor_of_name plX3) (fun _ _ => trivial) (Nat.le_of_ble_eq_true rfl) (fun x hl hc => by subst hl; exact j_sub (tX3_throughAll n d hc _ _ _ hf) (And.intro rfl (And.intro rfl (trivial))))
set_option maxRecDepth 100000 in
def fX11_closed_b111 (n d : Nat) (k59 : Int32 → Int32 → am_I → am_L → Option (Int32 × am_I × am_L)) (a1 : Int32) (a2 : Int32) (I : am_I) (L : am_L) : Option (Int32 × am_I × am_L) :=
  am_lt (a2 + (1 : Int32)) (fun v1 => k59 a1 v1 I L)

set_option maxRecDepth 100000 in
set_option maxHeartbeats 4000000 in
theorem tX11_closed_b111 {x : am_X} {al : Bool} (n d : Nat) (hc : am_ok x cX11_closed yX11_closed 4 (some .int) (d + 5) 0 0) {r : Int32} {I' : am_I} {L' : am_L} (k59 : Int32 → Int32 → am_I → am_L → Option (Int32 × am_I × am_L)) (hk59 : ∀ (a1 : Int32) (a2 : Int32) (I : am_I) (L : am_L), k59 a1 a2 I L = some (r, I', L') → am_J x (fun S => S = (some (.int r), (KC al), (RC al), I', L')) 59 [some (.ref 0), some (.int a1), some (.int a2), none] [] (KC al) (RC al) I L 0 0) (a1 : Int32) (a2 : Int32) (I : am_I) (L : am_L) (hf : fX11_closed_b111 n d k59 a1 a2 I L = some (r, I', L')) : am_J x (fun S => S = (some (.int r), (KC al), (RC al), I', L')) 111 [some (.ref 0), some (.int a1), some (.int a2), none] [] (KC al) (RC al) I L 0 0 := by
  unfold fX11_closed_b111 at hf
  refine j_iinc (w := (1 : Int32)) hc dX11_closed_111 rfl ci_1 (Nat.le_of_ble_eq_true rfl) hf (fun v1 hf => ?_)
  refine j_goto (tgt := 59) hc dX11_closed_114 rfl ?_
  exact j_sub (hk59 _ _ _ _ hf) (And.intro rfl (And.intro rfl (And.intro rfl (trivial))))

set_option maxRecDepth 100000 in
def fX11_closed_b93 (n d : Nat) (k59 : Int32 → Int32 → am_I → am_L → Option (Int32 × am_I × am_L)) (s0 : Int32) (a1 : Int32) (a2 : Int32) (I : am_I) (L : am_L) : Option (Int32 × am_I × am_L) :=
  am_lt s0 (fun v1 => if v1 = 0 then
    (fX11_closed_b111 n d k59 a1 a2 I L)
    else
    (am_b3 (fX3_throughAll n d a2 I L) (fun v2 I2 L2 => if v2 = 0 then
      (am_lt a2 (fun v3 => fX11_closed_b111 n d k59 v3 a2 I2 L2))
      else
      (fX11_closed_b111 n d k59 a1 a2 I2 L2))))

set_option maxRecDepth 100000 in
set_option maxHeartbeats 4000000 in
theorem tX11_closed_b93 {x : am_X} {al : Bool} (n d : Nat) (hc : am_ok x cX11_closed yX11_closed 4 (some .int) (d + 5) 0 0) {r : Int32} {I' : am_I} {L' : am_L} (k59 : Int32 → Int32 → am_I → am_L → Option (Int32 × am_I × am_L)) (hk59 : ∀ (a1 : Int32) (a2 : Int32) (I : am_I) (L : am_L), k59 a1 a2 I L = some (r, I', L') → am_J x (fun S => S = (some (.int r), (KC al), (RC al), I', L')) 59 [some (.ref 0), some (.int a1), some (.int a2), none] [] (KC al) (RC al) I L 0 0) (s0 : Int32) (a1 : Int32) (a2 : Int32) (I : am_I) (L : am_L) (hf : fX11_closed_b93 n d k59 s0 a1 a2 I L = some (r, I', L')) : am_J x (fun S => S = (some (.int r), (KC al), (RC al), I', L')) 93 [some (.ref 0), some (.int a1), some (.int a2), none] [.int s0] (KC al) (RC al) I L 0 0 := by
  unfold fX11_closed_b93 at hf
  refine j_istore_n hc dX11_closed_93 (Nat.le_of_ble_eq_true rfl) hf (fun v1 hf => ?_)
  refine j_iload_n hc dX11_closed_94 rfl ?_
  refine j_if_eq (tgt := 111) hc dX11_closed_95 rfl hf (fun hf => ?_) (fun hf => ?_)
  · exact j_sub (tX11_closed_b111 n d hc k59 hk59 _ _ _ _ hf) (And.intro rfl (And.intro rfl (And.intro rfl (trivial))))
  · refine j_aload_n hc dX11_closed_98 rfl ?_
    refine j_getR (u := 29) hc dX11_closed_99 (fgC_X11_47_0 _) (rC_0_5 _) ?_
    refine j_iload_n hc dX11_closed_102 rfl ?_
    refine j_callVI (t := 29) (As := [.int a2]) hc dX11_closed_103 kw_1224 mX3_throughAll (kC_29 _) clX3 rfl (by omega) (Nat.le_of_ble_eq_true rfl) (Nat.le_of_ble_eq_true rfl) ⟨Nat.le_refl _, Nat.le_refl _⟩ hf (fun v I' L' h => qX3_throughAll x.2.1 n d a2 I L v I' L' h) (fun v2 I2 L2 hf => ?_)
    refine j_if_ne (tgt := 111) hc dX11_closed_106 rfl hf (fun hf => ?_) (fun hf => ?_)
    · exact j_sub (tX11_closed_b111 n d hc k59 hk59 _ _ _ _ hf) (And.intro rfl (And.intro rfl (And.intro rfl (trivial))))
    · refine j_iload_n hc dX11_closed_109 rfl ?_
      refine j_istore_n hc dX11_closed_110 (Nat.le_of_ble_eq_true rfl) hf (fun v3 hf => ?_)
      exact j_sub (tX11_closed_b111 n d hc k59 hk59 _ _ _ _ hf) (And.intro rfl (And.intro rfl (And.intro rfl (trivial))))

set_option maxRecDepth 100000 in
def fX11_closed_b88 (n d : Nat) (k59 : Int32 → Int32 → am_I → am_L → Option (Int32 × am_I × am_L)) (a1 : Int32) (a2 : Int32) (I : am_I) (L : am_L) : Option (Int32 × am_I × am_L) :=
  fX11_closed_b93 n d k59 (1 : Int32) a1 a2 I L

set_option maxRecDepth 100000 in
set_option maxHeartbeats 4000000 in
theorem tX11_closed_b88 {x : am_X} {al : Bool} (n d : Nat) (hc : am_ok x cX11_closed yX11_closed 4 (some .int) (d + 5) 0 0) {r : Int32} {I' : am_I} {L' : am_L} (k59 : Int32 → Int32 → am_I → am_L → Option (Int32 × am_I × am_L)) (hk59 : ∀ (a1 : Int32) (a2 : Int32) (I : am_I) (L : am_L), k59 a1 a2 I L = some (r, I', L') → am_J x (fun S => S = (some (.int r), (KC al), (RC al), I', L')) 59 [some (.ref 0), some (.int a1), some (.int a2), none] [] (KC al) (RC al) I L 0 0) (a1 : Int32) (a2 : Int32) (I : am_I) (L : am_L) (hf : fX11_closed_b88 n d k59 a1 a2 I L = some (r, I', L')) : am_J x (fun S => S = (some (.int r), (KC al), (RC al), I', L')) 88 [some (.ref 0), some (.int a1), some (.int a2), none] [] (KC al) (RC al) I L 0 0 := by
  unfold fX11_closed_b88 at hf
  refine j_iconst (v := (1 : Int32)) hc dX11_closed_88 ci_1 ?_
  refine j_goto (tgt := 93) hc dX11_closed_89 rfl ?_
  exact j_sub (tX11_closed_b93 n d hc k59 hk59 _ _ _ _ _ hf) (And.intro rfl (And.intro rfl (And.intro rfl (trivial))))

set_option maxRecDepth 100000 in
def fX11_closed_b59w (n d : Nat) (k59 : Int32 → Int32 → am_I → am_L → Option (Int32 × am_I × am_L)) (a1 : Int32) (a2 : Int32) (I : am_I) (L : am_L) : Option (Int32 × am_I × am_L) :=
  if ((1 : Int32) <<< ((I 29 5) &&& 31)) ≤ a2 then
    (some (a1, I, L))
    else
    (if a1 = (-1 : Int32) then
      (fX11_closed_b88 n d k59 a1 a2 I L)
      else
      (am_b3 (fJ6_bitCount_0f7a4 n d a2 I L) (fun v1 I1 L1 => am_b3 (fJ6_bitCount_0f7a4 n d a1 I1 L1) (fun v2 I2 L2 => if v2 ≤ v1 then
        (fX11_closed_b93 n d k59 (0 : Int32) a1 a2 I2 L2)
        else
        (fX11_closed_b88 n d k59 a1 a2 I2 L2)))))

set_option maxRecDepth 100000 in
set_option maxHeartbeats 4000000 in
theorem tX11_closed_b59w {x : am_X} {al : Bool} (n d : Nat) (hc : am_ok x cX11_closed yX11_closed 4 (some .int) (d + 5) 0 0) {r : Int32} {I' : am_I} {L' : am_L} (k59 : Int32 → Int32 → am_I → am_L → Option (Int32 × am_I × am_L)) (hk59 : ∀ (a1 : Int32) (a2 : Int32) (I : am_I) (L : am_L), k59 a1 a2 I L = some (r, I', L') → am_J x (fun S => S = (some (.int r), (KC al), (RC al), I', L')) 59 [some (.ref 0), some (.int a1), some (.int a2), none] [] (KC al) (RC al) I L 0 0) (a1 : Int32) (a2 : Int32) (I : am_I) (L : am_L) (hf : fX11_closed_b59w n d k59 a1 a2 I L = some (r, I', L')) : am_J x (fun S => S = (some (.int r), (KC al), (RC al), I', L')) 59 [some (.ref 0), some (.int a1), some (.int a2), none] [] (KC al) (RC al) I L 0 0 := by
  unfold fX11_closed_b59w at hf
  refine j_iload_n hc dX11_closed_59 rfl ?_
  refine j_iconst (v := (1 : Int32)) hc dX11_closed_60 ci_1 ?_
  refine j_aload_n hc dX11_closed_61 rfl ?_
  refine j_getR (u := 29) hc dX11_closed_62 (fgC_X11_47_0 _) (rC_0_5 _) ?_
  refine j_getI hc dX11_closed_65 (fgC_X11_129_29 _) ?_
  refine j_ishl hc dX11_closed_68 ?_
  refine j_icmp_ge (tgt := 117) hc dX11_closed_69 rfl hf (fun hf => ?_) (fun hf => ?_)
  · refine j_iload_n hc dX11_closed_117 rfl ?_
    exact j_ireturn hc dX11_closed_118 rfl rfl hf
  · refine j_iload_n hc dX11_closed_72 rfl ?_
    refine j_iconst (v := (-1 : Int32)) hc dX11_closed_73 ci_m1 ?_
    refine j_icmp_eq (tgt := 88) hc dX11_closed_74 rfl hf (fun hf => ?_) (fun hf => ?_)
    · exact j_sub (tX11_closed_b88 n d hc k59 hk59 _ _ _ _ hf) (And.intro rfl (And.intro rfl (And.intro rfl (trivial))))
    · refine j_iload_n hc dX11_closed_77 rfl ?_
      refine j_callSI (As := [.int a2]) hc dX11_closed_78 kw_1218 mJ6_bitCount_0f7a4  rfl (by omega) (Nat.le_of_ble_eq_true rfl) (Nat.le_of_ble_eq_true rfl) ⟨Nat.le_refl _, Nat.le_refl _⟩ hf (fun v I' L' h => qJ6_bitCount_0f7a4 x.2.1 n d a2 I L v I' L' h) (fun v1 I1 L1 hf => ?_)
      refine j_iload_n hc dX11_closed_81 rfl ?_
      refine j_callSI (As := [.int a1]) hc dX11_closed_82 kw_1218 mJ6_bitCount_0f7a4  rfl (by omega) (Nat.le_of_ble_eq_true rfl) (Nat.le_of_ble_eq_true rfl) ⟨Nat.le_refl _, Nat.le_refl _⟩ hf (fun v I' L' h => qJ6_bitCount_0f7a4 x.2.1 n d a1 I1 L1 v I' L' h) (fun v2 I2 L2 hf => ?_)
      refine j_icmp_ge (tgt := 92) hc dX11_closed_85 rfl hf (fun hf => ?_) (fun hf => ?_)
      · refine j_iconst (v := (0 : Int32)) hc dX11_closed_92 ci_0 ?_
        exact j_sub (tX11_closed_b93 n d hc k59 hk59 _ _ _ _ _ hf) (And.intro rfl (And.intro rfl (And.intro rfl (trivial))))
      · exact j_sub (tX11_closed_b88 n d hc k59 hk59 _ _ _ _ hf) (And.intro rfl (And.intro rfl (And.intro rfl (trivial))))

def fX11_closed_b59 (n d : Nat) : Nat → Int32 → Int32 → am_I → am_L → Option (Int32 × am_I × am_L)
  | 0 => fun _ _ _ _ => none
  | m + 1 => fX11_closed_b59w n d  (fX11_closed_b59 n d m)

set_option maxRecDepth 100000 in
theorem tX11_closed_b59 {x : am_X} {al : Bool} (n d : Nat) (hc : am_ok x cX11_closed yX11_closed 4 (some .int) (d + 5) 0 0) {r : Int32} {I' : am_I} {L' : am_L} (m : Nat) : ∀ (a1 : Int32) (a2 : Int32) (I : am_I) (L : am_L) (hf : fX11_closed_b59 n d m a1 a2 I L = some (r, I', L')), am_J x (fun S => S = (some (.int r), (KC al), (RC al), I', L')) 59 [some (.ref 0), some (.int a1), some (.int a2), none] [] (KC al) (RC al) I L 0 0 := by
  induction m with
  | zero => intro a1 a2 I L hf; exact (Option.some_ne_none _ hf.symm).elim
  | succ m ih => intro a1 a2 I L hf; exact tX11_closed_b59w n d hc (fX11_closed_b59 n d m) ih a1 a2 I L hf

set_option maxRecDepth 100000 in
def fX11_closed_b24w (n d : Nat) (k24 : Int32 → am_I → am_L → Option (Int32 × am_I × am_L)) (a1 : Int32) (I : am_I) (L : am_L) : Option (Int32 × am_I × am_L) :=
  if (I 29 5) ≤ a1 then
    (am_lt (-1 : Int32) (fun v1 => am_lt (1 : Int32) (fun v2 => fX11_closed_b59 n d n v1 v2 I L)))
    else
    (am_b3 (fX11_loopholeBits n d a1 I L) (fun v3 I3 L3 => am_ck a1 4 (am_lt (am_up I3 38 (a1).toNatClampNeg v3) (fun I4 => am_lt (a1 + (1 : Int32)) (fun v5 => k24 v5 I4 L3)))))

set_option maxRecDepth 100000 in
set_option maxHeartbeats 4000000 in
theorem tX11_closed_b24w {x : am_X} {al : Bool} (n d : Nat) (hc : am_ok x cX11_closed yX11_closed 4 (some .int) (d + 5) 0 0) {r : Int32} {I' : am_I} {L' : am_L} (k24 : Int32 → am_I → am_L → Option (Int32 × am_I × am_L)) (hk24 : ∀ (a1 : Int32) (I : am_I) (L : am_L), k24 a1 I L = some (r, I', L') → am_J x (fun S => S = (some (.int r), (KC al), (RC al), I', L')) 24 [some (.ref 0), some (.int a1), none, none] [] (KC al) (RC al) I L 0 0) (a1 : Int32) (I : am_I) (L : am_L) (hf : fX11_closed_b24w n d k24 a1 I L = some (r, I', L')) : am_J x (fun S => S = (some (.int r), (KC al), (RC al), I', L')) 24 [some (.ref 0), some (.int a1), none, none] [] (KC al) (RC al) I L 0 0 := by
  unfold fX11_closed_b24w at hf
  refine j_iload_n hc dX11_closed_24 rfl ?_
  refine j_aload_n hc dX11_closed_25 rfl ?_
  refine j_getR (u := 29) hc dX11_closed_26 (fgC_X11_47_0 _) (rC_0_5 _) ?_
  refine j_getI hc dX11_closed_29 (fgC_X11_129_29 _) ?_
  refine j_icmp_ge (tgt := 55) hc dX11_closed_32 rfl hf (fun hf => ?_) (fun hf => ?_)
  · refine j_iconst (v := (-1 : Int32)) hc dX11_closed_55 ci_m1 ?_
    refine j_istore_n hc dX11_closed_56 (Nat.le_of_ble_eq_true rfl) hf (fun v1 hf => ?_)
    refine j_iconst (v := (1 : Int32)) hc dX11_closed_57 ci_1 ?_
    refine j_istore_n hc dX11_closed_58 (Nat.le_of_ble_eq_true rfl) hf (fun v2 hf => ?_)
    exact j_sub (tX11_closed_b59 n d hc n _ _ _ _ hf) (And.intro rfl (And.intro rfl (And.intro rfl (trivial))))
  · refine j_aload_n hc dX11_closed_35 rfl ?_
    refine j_getR (u := 29) hc dX11_closed_36 (fgC_X11_47_0 _) (rC_0_5 _) ?_
    refine j_getR (u := 38) hc dX11_closed_39 (fgC_X11_380_29 _) (rC_29_4 _) ?_
    refine j_iload_n hc dX11_closed_42 rfl ?_
    refine j_aload_n hc dX11_closed_43 rfl ?_
    refine j_iload_n hc dX11_closed_44 rfl ?_
    refine j_callVI (t := 0) (As := [.int a1]) hc dX11_closed_45 kw_1209 mX11_loopholeBits (kC_0 _) clX11 rfl (by omega) (Nat.le_of_ble_eq_true rfl) (Nat.le_of_ble_eq_true rfl) ⟨Nat.le_refl _, Nat.le_refl _⟩ hf (fun v I' L' h => qX11_loopholeBits x.2.1 n d a1 I L v I' L' h) (fun v3 I3 L3 hf => ?_)
    refine j_iastore (n := 4) hc dX11_closed_48 (kC_38 _) hf (fun I4 hf => ?_)
    refine j_iinc (w := (1 : Int32)) hc dX11_closed_49 rfl ci_1 (Nat.le_of_ble_eq_true rfl) hf (fun v5 hf => ?_)
    refine j_goto (tgt := 24) hc dX11_closed_52 rfl ?_
    exact j_sub (hk24 _ _ _ hf) (And.intro rfl (And.intro rfl (trivial)))

def fX11_closed_b24 (n d : Nat) : Nat → Int32 → am_I → am_L → Option (Int32 × am_I × am_L)
  | 0 => fun _ _ _ => none
  | m + 1 => fX11_closed_b24w n d  (fX11_closed_b24 n d m)

set_option maxRecDepth 100000 in
theorem tX11_closed_b24 {x : am_X} {al : Bool} (n d : Nat) (hc : am_ok x cX11_closed yX11_closed 4 (some .int) (d + 5) 0 0) {r : Int32} {I' : am_I} {L' : am_L} (m : Nat) : ∀ (a1 : Int32) (I : am_I) (L : am_L) (hf : fX11_closed_b24 n d m a1 I L = some (r, I', L')), am_J x (fun S => S = (some (.int r), (KC al), (RC al), I', L')) 24 [some (.ref 0), some (.int a1), none, none] [] (KC al) (RC al) I L 0 0 := by
  induction m with
  | zero => intro a1 I L hf; exact (Option.some_ne_none _ hf.symm).elim
  | succ m ih => intro a1 I L hf; exact tX11_closed_b24w n d hc (fX11_closed_b24 n d m) ih a1 I L hf

set_option maxRecDepth 100000 in
def fX11_closed (n d : Nat) (I : am_I) (L : am_L) : Option (Int32 × am_I × am_L) :=
  if (I 3 0) = 0 then
    (some ((-1 : Int32), I, L))
    else
    (if (I 29 5) = 0 then
      (some ((-1 : Int32), I, L))
      else
      (am_lt (0 : Int32) (fun v1 => fX11_closed_b24 n d n v1 I L)))

set_option maxRecDepth 100000 in
set_option maxHeartbeats 4000000 in
theorem tX11_closed {x : am_X} {al : Bool} (n d : Nat) (hc : am_ok x cX11_closed yX11_closed 4 (some .int) (d + 5) 0 0) {r : Int32} {I' : am_I} {L' : am_L} (I : am_I) (L : am_L) (hf : fX11_closed n d I L = some (r, I', L')) : am_J x (fun S => S = (some (.int r), (KC al), (RC al), I', L')) 0 [some (.ref 0), none, none, none] [] (KC al) (RC al) I L 0 0 := by
  unfold fX11_closed at hf
  refine j_aload_n hc dX11_closed_0 rfl ?_
  refine j_getR (u := 3) hc dX11_closed_1 (fgC_X11_19_0 _) (rC_0_1 _) ?_
  refine j_getI hc dX11_closed_4 (fgC_X11_151_3 _) ?_
  refine j_if_eq (tgt := 20) hc dX11_closed_7 rfl hf (fun hf => ?_) (fun hf => ?_)
  · refine j_iconst (v := (-1 : Int32)) hc dX11_closed_20 ci_m1 ?_
    exact j_ireturn hc dX11_closed_21 rfl rfl hf
  · refine j_aload_n hc dX11_closed_10 rfl ?_
    refine j_getR (u := 29) hc dX11_closed_11 (fgC_X11_47_0 _) (rC_0_5 _) ?_
    refine j_getI hc dX11_closed_14 (fgC_X11_129_29 _) ?_
    refine j_if_ne (tgt := 22) hc dX11_closed_17 rfl hf (fun hf => ?_) (fun hf => ?_)
    · refine j_iconst (v := (0 : Int32)) hc dX11_closed_22 ci_0 ?_
      refine j_istore_n hc dX11_closed_23 (Nat.le_of_ble_eq_true rfl) hf (fun v1 hf => ?_)
      exact j_sub (tX11_closed_b24 n d hc n _ _ _ hf) (And.intro rfl (And.intro rfl (trivial)))
    · refine j_iconst (v := (-1 : Int32)) hc dX11_closed_20 ci_m1 ?_
      exact j_ireturn hc dX11_closed_21 rfl rfl hf

set_option maxRecDepth 100000 in
theorem qX11_closed (l : Launch) {al : Bool} (n d : Nat) (I : am_I) (L : am_L) (r : Int32) (I' : am_I) (L' : am_L) (hf : fX11_closed n d I L = some (r, I', L')) : am_C l yX11_closed cX11_closed 4 (some .int) (d + 5) [.ref 0] (KC al) (RC al) I L (some (.int r)) I' L' := by
  exact am_intro (plainFor_of_name plX11) (fun _ _ => trivial) (Nat.le_of_ble_eq_true rfl) (fun x hl hc => by subst hl; exact j_sub (tX11_closed n d hc  _ _ hf) (And.intro rfl (trivial)))
set_option maxRecDepth 100000 in
def fX11_reads_b46 (n d : Nat) (k17 : Int32 → Int32 → Int32 → am_I → am_L → Option (Int32 × am_I × am_L)) (a1 : Int32) (a2 : Int32) (a3 : Int32) (I : am_I) (L : am_L) : Option (Int32 × am_I × am_L) :=
  am_lt (a3 + (1 : Int32)) (fun v1 => k17 a1 a2 v1 I L)

set_option maxRecDepth 100000 in
set_option maxHeartbeats 4000000 in
theorem tX11_reads_b46 {x : am_X} {al : Bool} (n d : Nat) (hc : am_ok x cX11_reads yX11_reads 4 (some .int) (d + 4) 0 0) {r : Int32} {I' : am_I} {L' : am_L} (k17 : Int32 → Int32 → Int32 → am_I → am_L → Option (Int32 × am_I × am_L)) (hk17 : ∀ (a1 : Int32) (a2 : Int32) (a3 : Int32) (I : am_I) (L : am_L), k17 a1 a2 a3 I L = some (r, I', L') → am_J x (fun S => S = (some (.int r), (KC al), (RC al), I', L')) 17 [some (.ref 0), some (.int a1), some (.int a2), some (.int a3)] [] (KC al) (RC al) I L 0 0) (a1 : Int32) (a2 : Int32) (a3 : Int32) (I : am_I) (L : am_L) (hf : fX11_reads_b46 n d k17 a1 a2 a3 I L = some (r, I', L')) : am_J x (fun S => S = (some (.int r), (KC al), (RC al), I', L')) 46 [some (.ref 0), some (.int a1), some (.int a2), some (.int a3)] [] (KC al) (RC al) I L 0 0 := by
  unfold fX11_reads_b46 at hf
  refine j_iinc (w := (1 : Int32)) hc dX11_reads_46 rfl ci_1 (Nat.le_of_ble_eq_true rfl) hf (fun v1 hf => ?_)
  refine j_goto (tgt := 17) hc dX11_reads_49 rfl ?_
  exact j_sub (hk17 _ _ _ _ _ hf) (And.intro rfl (And.intro rfl (And.intro rfl (And.intro rfl (trivial)))))

set_option maxRecDepth 100000 in
def fX11_reads_b17w (n d : Nat) (k17 : Int32 → Int32 → Int32 → am_I → am_L → Option (Int32 × am_I × am_L)) (a1 : Int32) (a2 : Int32) (a3 : Int32) (I : am_I) (L : am_L) : Option (Int32 × am_I × am_L) :=
  if (I 29 5) ≤ a3 then
    (some (a2, I, L))
    else
    (am_b3 (fX7_isHomeBy n d a3 a1 I L) (fun v1 I1 L1 => if v1 = 0 then
      (fX11_reads_b46 n d k17 a1 a2 a3 I1 L1)
      else
      (am_lt (a2 ||| ((1 : Int32) <<< (a3 &&& 31))) (fun v2 => fX11_reads_b46 n d k17 a1 v2 a3 I1 L1))))

set_option maxRecDepth 100000 in
set_option maxHeartbeats 4000000 in
theorem tX11_reads_b17w {x : am_X} {al : Bool} (n d : Nat) (hc : am_ok x cX11_reads yX11_reads 4 (some .int) (d + 4) 0 0) {r : Int32} {I' : am_I} {L' : am_L} (k17 : Int32 → Int32 → Int32 → am_I → am_L → Option (Int32 × am_I × am_L)) (hk17 : ∀ (a1 : Int32) (a2 : Int32) (a3 : Int32) (I : am_I) (L : am_L), k17 a1 a2 a3 I L = some (r, I', L') → am_J x (fun S => S = (some (.int r), (KC al), (RC al), I', L')) 17 [some (.ref 0), some (.int a1), some (.int a2), some (.int a3)] [] (KC al) (RC al) I L 0 0) (a1 : Int32) (a2 : Int32) (a3 : Int32) (I : am_I) (L : am_L) (hf : fX11_reads_b17w n d k17 a1 a2 a3 I L = some (r, I', L')) : am_J x (fun S => S = (some (.int r), (KC al), (RC al), I', L')) 17 [some (.ref 0), some (.int a1), some (.int a2), some (.int a3)] [] (KC al) (RC al) I L 0 0 := by
  unfold fX11_reads_b17w at hf
  refine j_iload_n hc dX11_reads_17 rfl ?_
  refine j_aload_n hc dX11_reads_18 rfl ?_
  refine j_getR (u := 29) hc dX11_reads_19 (fgC_X11_47_0 _) (rC_0_5 _) ?_
  refine j_getI hc dX11_reads_22 (fgC_X11_129_29 _) ?_
  refine j_icmp_ge (tgt := 52) hc dX11_reads_25 rfl hf (fun hf => ?_) (fun hf => ?_)
  · refine j_iload_n hc dX11_reads_52 rfl ?_
    exact j_ireturn hc dX11_reads_53 rfl rfl hf
  · refine j_aload_n hc dX11_reads_28 rfl ?_
    refine j_getR (u := 39) hc dX11_reads_29 (fgC_X11_56_0 _) (rC_0_6 _) ?_
    refine j_iload_n hc dX11_reads_32 rfl ?_
    refine j_iload_n hc dX11_reads_33 rfl ?_
    refine j_callVI (t := 39) (As := [.int a3, .int a1]) hc dX11_reads_34 kw_1213 mX7_isHomeBy (kC_39 _) clX7 rfl (by omega) (Nat.le_of_ble_eq_true rfl) (Nat.le_of_ble_eq_true rfl) ⟨Nat.le_refl _, Nat.le_refl _⟩ hf (fun v I' L' h => qX7_isHomeBy x.2.1 n d a3 a1 I L v I' L' h) (fun v1 I1 L1 hf => ?_)
    refine j_if_eq (tgt := 46) hc dX11_reads_37 rfl hf (fun hf => ?_) (fun hf => ?_)
    · exact j_sub (tX11_reads_b46 n d hc k17 hk17 _ _ _ _ _ hf) (And.intro rfl (And.intro rfl (And.intro rfl (And.intro rfl (trivial)))))
    · refine j_iload_n hc dX11_reads_40 rfl ?_
      refine j_iconst (v := (1 : Int32)) hc dX11_reads_41 ci_1 ?_
      refine j_iload_n hc dX11_reads_42 rfl ?_
      refine j_ishl hc dX11_reads_43 ?_
      refine j_ior hc dX11_reads_44 ?_
      refine j_istore_n hc dX11_reads_45 (Nat.le_of_ble_eq_true rfl) hf (fun v2 hf => ?_)
      exact j_sub (tX11_reads_b46 n d hc k17 hk17 _ _ _ _ _ hf) (And.intro rfl (And.intro rfl (And.intro rfl (And.intro rfl (trivial)))))

def fX11_reads_b17 (n d : Nat) : Nat → Int32 → Int32 → Int32 → am_I → am_L → Option (Int32 × am_I × am_L)
  | 0 => fun _ _ _ _ _ => none
  | m + 1 => fX11_reads_b17w n d  (fX11_reads_b17 n d m)

set_option maxRecDepth 100000 in
theorem tX11_reads_b17 {x : am_X} {al : Bool} (n d : Nat) (hc : am_ok x cX11_reads yX11_reads 4 (some .int) (d + 4) 0 0) {r : Int32} {I' : am_I} {L' : am_L} (m : Nat) : ∀ (a1 : Int32) (a2 : Int32) (a3 : Int32) (I : am_I) (L : am_L) (hf : fX11_reads_b17 n d m a1 a2 a3 I L = some (r, I', L')), am_J x (fun S => S = (some (.int r), (KC al), (RC al), I', L')) 17 [some (.ref 0), some (.int a1), some (.int a2), some (.int a3)] [] (KC al) (RC al) I L 0 0 := by
  induction m with
  | zero => intro a1 a2 a3 I L hf; exact (Option.some_ne_none _ hf.symm).elim
  | succ m ih => intro a1 a2 a3 I L hf; exact tX11_reads_b17w n d hc (fX11_reads_b17 n d m) ih a1 a2 a3 I L hf

set_option maxRecDepth 100000 in
def fX11_reads (n d : Nat) (a1 : Int32) (I : am_I) (L : am_L) : Option (Int32 × am_I × am_L) :=
  am_b3 (fX9_hasMan_war n d a1 I L) (fun v1 I1 L1 => if v1 = 0 then
    (some ((-1 : Int32), I1, L1))
    else
    (am_lt (0 : Int32) (fun v2 => am_lt (0 : Int32) (fun v3 => fX11_reads_b17 n d n a1 v2 v3 I1 L1))))

set_option maxRecDepth 100000 in
set_option maxHeartbeats 4000000 in
theorem tX11_reads {x : am_X} {al : Bool} (n d : Nat) (hc : am_ok x cX11_reads yX11_reads 4 (some .int) (d + 4) 0 0) {r : Int32} {I' : am_I} {L' : am_L} (a1 : Int32) (I : am_I) (L : am_L) (hf : fX11_reads n d a1 I L = some (r, I', L')) : am_J x (fun S => S = (some (.int r), (KC al), (RC al), I', L')) 0 [some (.ref 0), some (.int a1), none, none] [] (KC al) (RC al) I L 0 0 := by
  unfold fX11_reads at hf
  refine j_aload_n hc dX11_reads_0 rfl ?_
  refine j_getR (u := 3) hc dX11_reads_1 (fgC_X11_19_0 _) (rC_0_1 _) ?_
  refine j_iload_n hc dX11_reads_4 rfl ?_
  refine j_callVI (t := 3) (As := [.int a1]) hc dX11_reads_5 kw_978 mX9_hasMan (kC_3 _) clX9 rfl (by omega) (Nat.le_of_ble_eq_true rfl) (Nat.le_of_ble_eq_true rfl) ⟨Nat.le_refl _, Nat.le_refl _⟩ hf (fun v I' L' h => qX9_hasMan_war x.2.1 n d a1 I L v I' L' h) (fun v1 I1 L1 hf => ?_)
  refine j_if_ne (tgt := 13) hc dX11_reads_8 rfl hf (fun hf => ?_) (fun hf => ?_)
  · refine j_iconst (v := (0 : Int32)) hc dX11_reads_13 ci_0 ?_
    refine j_istore_n hc dX11_reads_14 (Nat.le_of_ble_eq_true rfl) hf (fun v2 hf => ?_)
    refine j_iconst (v := (0 : Int32)) hc dX11_reads_15 ci_0 ?_
    refine j_istore_n hc dX11_reads_16 (Nat.le_of_ble_eq_true rfl) hf (fun v3 hf => ?_)
    exact j_sub (tX11_reads_b17 n d hc n _ _ _ _ _ hf) (And.intro rfl (And.intro rfl (And.intro rfl (And.intro rfl (trivial)))))
  · refine j_iconst (v := (-1 : Int32)) hc dX11_reads_11 ci_m1 ?_
    exact j_ireturn hc dX11_reads_12 rfl rfl hf

set_option maxRecDepth 100000 in
theorem qX11_reads (l : Launch) {al : Bool} (n d : Nat) (a1 : Int32) (I : am_I) (L : am_L) (r : Int32) (I' : am_I) (L' : am_L) (hf : fX11_reads n d a1 I L = some (r, I', L')) : am_C l yX11_reads cX11_reads 4 (some .int) (d + 4) [.ref 0, .int a1] (KC al) (RC al) I L (some (.int r)) I' L' := by
  exact am_intro (plainFor_of_name plX11) (fun _ _ => trivial) (Nat.le_of_ble_eq_true rfl) (fun x hl hc => by subst hl; exact j_sub (tX11_reads n d hc _ _ _ hf) (And.intro rfl (And.intro rfl (trivial))))
set_option maxRecDepth 100000 in
def fX11_away_b81 (n d : Nat) (k35 : Int32 → Int32 → Int32 → am_I → am_L → Option (Int32 × am_I × am_L)) (s0 : Int32) (s1 : Int32) (a1 : Int32) (a3 : Int32) (I : am_I) (L : am_L) : Option (Int32 × am_I × am_L) :=
  am_lt (s0 + s1) (fun v1 => am_lt (a3 + (1 : Int32)) (fun v2 => k35 a1 v1 v2 I L))

set_option maxRecDepth 100000 in
set_option maxHeartbeats 4000000 in
theorem tX11_away_b81 {x : am_X} {al : Bool} (n d : Nat) (hc : am_ok x cX11_away yX11_away 4 (some .int) (d + 2) 0 0) {r : Int32} {I' : am_I} {L' : am_L} (k35 : Int32 → Int32 → Int32 → am_I → am_L → Option (Int32 × am_I × am_L)) (hk35 : ∀ (a1 : Int32) (a2 : Int32) (a3 : Int32) (I : am_I) (L : am_L), k35 a1 a2 a3 I L = some (r, I', L') → am_J x (fun S => S = (some (.int r), (KC al), (RC al), I', L')) 35 [some (.ref 0), some (.int a1), some (.int a2), some (.int a3)] [] (KC al) (RC al) I L 0 0) (s0 : Int32) (s1 : Int32) (a1 : Int32) (a3 : Int32) (I : am_I) (L : am_L) (hf : fX11_away_b81 n d k35 s0 s1 a1 a3 I L = some (r, I', L')) : am_J x (fun S => S = (some (.int r), (KC al), (RC al), I', L')) 81 [some (.ref 0), some (.int a1), none, some (.int a3)] [.int s1, .int s0] (KC al) (RC al) I L 0 0 := by
  unfold fX11_away_b81 at hf
  refine j_iadd hc dX11_away_81 ?_
  refine j_istore_n hc dX11_away_82 (Nat.le_of_ble_eq_true rfl) hf (fun v1 hf => ?_)
  refine j_iinc (w := (1 : Int32)) hc dX11_away_83 rfl ci_1 (Nat.le_of_ble_eq_true rfl) hf (fun v2 hf => ?_)
  refine j_goto (tgt := 35) hc dX11_away_86 rfl ?_
  exact j_sub (hk35 _ _ _ _ _ hf) (And.intro rfl (And.intro rfl (And.intro rfl (And.intro rfl (trivial)))))

set_option maxRecDepth 100000 in
def fX11_away_b35w (n d : Nat) (k35 : Int32 → Int32 → Int32 → am_I → am_L → Option (Int32 × am_I × am_L)) (a1 : Int32) (a2 : Int32) (a3 : Int32) (I : am_I) (L : am_L) : Option (Int32 × am_I × am_L) :=
  if (I 3 1) ≤ a3 then
    (some (a2, I, L))
    else
    (am_ck a3 6 (am_lt (I 10 (a3).toNatClampNeg) (fun v1 => am_ck a1 8 (am_lt (I 40 (a1).toNatClampNeg) (fun v2 => if v2 ≤ v1 then
      (fX11_away_b81 n d k35 a2 (0 : Int32) a1 a3 I L)
      else
      (am_ck a3 6 (am_lt (I 11 (a3).toNatClampNeg) (fun v3 => fX11_away_b81 n d k35 a2 v3 a1 a3 I L))))))))

set_option maxRecDepth 100000 in
set_option maxHeartbeats 4000000 in
theorem tX11_away_b35w {x : am_X} {al : Bool} (n d : Nat) (hc : am_ok x cX11_away yX11_away 4 (some .int) (d + 2) 0 0) {r : Int32} {I' : am_I} {L' : am_L} (k35 : Int32 → Int32 → Int32 → am_I → am_L → Option (Int32 × am_I × am_L)) (hk35 : ∀ (a1 : Int32) (a2 : Int32) (a3 : Int32) (I : am_I) (L : am_L), k35 a1 a2 a3 I L = some (r, I', L') → am_J x (fun S => S = (some (.int r), (KC al), (RC al), I', L')) 35 [some (.ref 0), some (.int a1), some (.int a2), some (.int a3)] [] (KC al) (RC al) I L 0 0) (a1 : Int32) (a2 : Int32) (a3 : Int32) (I : am_I) (L : am_L) (hf : fX11_away_b35w n d k35 a1 a2 a3 I L = some (r, I', L')) : am_J x (fun S => S = (some (.int r), (KC al), (RC al), I', L')) 35 [some (.ref 0), some (.int a1), some (.int a2), some (.int a3)] [] (KC al) (RC al) I L 0 0 := by
  unfold fX11_away_b35w at hf
  refine j_iload_n hc dX11_away_35 rfl ?_
  refine j_aload_n hc dX11_away_36 rfl ?_
  refine j_getR (u := 3) hc dX11_away_37 (fgC_X11_19_0 _) (rC_0_1 _) ?_
  refine j_getI hc dX11_away_40 (fgC_X11_194_3 _) ?_
  refine j_icmp_ge (tgt := 89) hc dX11_away_43 rfl hf (fun hf => ?_) (fun hf => ?_)
  · refine j_iload_n hc dX11_away_89 rfl ?_
    exact j_ireturn hc dX11_away_90 rfl rfl hf
  · refine j_iload_n hc dX11_away_46 rfl ?_
    refine j_aload_n hc dX11_away_47 rfl ?_
    refine j_getR (u := 3) hc dX11_away_48 (fgC_X11_19_0 _) (rC_0_1 _) ?_
    refine j_getR (u := 10) hc dX11_away_51 (fgC_X11_197_3 _) (rC_3_11 _) ?_
    refine j_iload_n hc dX11_away_54 rfl ?_
    refine j_iaload (n := 6) hc dX11_away_55 (kC_10 _) hf (fun v1 hf => ?_)
    refine j_aload_n hc dX11_away_56 rfl ?_
    refine j_getR (u := 39) hc dX11_away_57 (fgC_X11_56_0 _) (rC_0_6 _) ?_
    refine j_getR (u := 40) hc dX11_away_60 (fgC_X11_168_39 _) (rC_39_2 _) ?_
    refine j_iload_n hc dX11_away_63 rfl ?_
    refine j_iaload (n := 8) hc dX11_away_64 (kC_40 _) hf (fun v2 hf => ?_)
    refine j_icmp_ge (tgt := 80) hc dX11_away_65 rfl hf (fun hf => ?_) (fun hf => ?_)
    · refine j_iconst (v := (0 : Int32)) hc dX11_away_80 ci_0 ?_
      exact j_sub (tX11_away_b81 n d hc k35 hk35 _ _ _ _ _ _ hf) (And.intro rfl (And.intro rfl (And.intro rfl (trivial))))
    · refine j_aload_n hc dX11_away_68 rfl ?_
      refine j_getR (u := 3) hc dX11_away_69 (fgC_X11_19_0 _) (rC_0_1 _) ?_
      refine j_getR (u := 11) hc dX11_away_72 (fgC_X11_200_3 _) (rC_3_12 _) ?_
      refine j_iload_n hc dX11_away_75 rfl ?_
      refine j_iaload (n := 6) hc dX11_away_76 (kC_11 _) hf (fun v3 hf => ?_)
      refine j_goto (tgt := 81) hc dX11_away_77 rfl ?_
      exact j_sub (tX11_away_b81 n d hc k35 hk35 _ _ _ _ _ _ hf) (And.intro rfl (And.intro rfl (And.intro rfl (trivial))))

def fX11_away_b35 (n d : Nat) : Nat → Int32 → Int32 → Int32 → am_I → am_L → Option (Int32 × am_I × am_L)
  | 0 => fun _ _ _ _ _ => none
  | m + 1 => fX11_away_b35w n d  (fX11_away_b35 n d m)

set_option maxRecDepth 100000 in
theorem tX11_away_b35 {x : am_X} {al : Bool} (n d : Nat) (hc : am_ok x cX11_away yX11_away 4 (some .int) (d + 2) 0 0) {r : Int32} {I' : am_I} {L' : am_L} (m : Nat) : ∀ (a1 : Int32) (a2 : Int32) (a3 : Int32) (I : am_I) (L : am_L) (hf : fX11_away_b35 n d m a1 a2 a3 I L = some (r, I', L')), am_J x (fun S => S = (some (.int r), (KC al), (RC al), I', L')) 35 [some (.ref 0), some (.int a1), some (.int a2), some (.int a3)] [] (KC al) (RC al) I L 0 0 := by
  induction m with
  | zero => intro a1 a2 a3 I L hf; exact (Option.some_ne_none _ hf.symm).elim
  | succ m ih => intro a1 a2 a3 I L hf; exact tX11_away_b35w n d hc (fX11_away_b35 n d m) ih a1 a2 a3 I L hf

set_option maxRecDepth 100000 in
def fX11_away (n d : Nat) (a1 : Int32) (I : am_I) (L : am_L) : Option (Int32 × am_I × am_L) :=
  am_b3 (fX9_hasMan_war n d a1 I L) (fun v1 I1 L1 => if v1 = 0 then
    (some ((-1 : Int32), I1, L1))
    else
    (am_ck a1 8 (am_lt (I1 40 (a1).toNatClampNeg) (fun v2 => am_ck a1 8 (am_lt (I1 41 (a1).toNatClampNeg) (fun v3 => am_lt (v2 + v3) (fun v4 => am_lt (0 : Int32) (fun v5 => fX11_away_b35 n d n a1 v4 v5 I1 L1))))))))

set_option maxRecDepth 100000 in
set_option maxHeartbeats 4000000 in
theorem tX11_away {x : am_X} {al : Bool} (n d : Nat) (hc : am_ok x cX11_away yX11_away 4 (some .int) (d + 2) 0 0) {r : Int32} {I' : am_I} {L' : am_L} (a1 : Int32) (I : am_I) (L : am_L) (hf : fX11_away n d a1 I L = some (r, I', L')) : am_J x (fun S => S = (some (.int r), (KC al), (RC al), I', L')) 0 [some (.ref 0), some (.int a1), none, none] [] (KC al) (RC al) I L 0 0 := by
  unfold fX11_away at hf
  refine j_aload_n hc dX11_away_0 rfl ?_
  refine j_getR (u := 3) hc dX11_away_1 (fgC_X11_19_0 _) (rC_0_1 _) ?_
  refine j_iload_n hc dX11_away_4 rfl ?_
  refine j_callVI (t := 3) (As := [.int a1]) hc dX11_away_5 kw_978 mX9_hasMan (kC_3 _) clX9 rfl (by omega) (Nat.le_of_ble_eq_true rfl) (Nat.le_of_ble_eq_true rfl) ⟨Nat.le_refl _, Nat.le_refl _⟩ hf (fun v I' L' h => qX9_hasMan_war x.2.1 n d a1 I L v I' L' h) (fun v1 I1 L1 hf => ?_)
  refine j_if_ne (tgt := 13) hc dX11_away_8 rfl hf (fun hf => ?_) (fun hf => ?_)
  · refine j_aload_n hc dX11_away_13 rfl ?_
    refine j_getR (u := 39) hc dX11_away_14 (fgC_X11_56_0 _) (rC_0_6 _) ?_
    refine j_getR (u := 40) hc dX11_away_17 (fgC_X11_168_39 _) (rC_39_2 _) ?_
    refine j_iload_n hc dX11_away_20 rfl ?_
    refine j_iaload (n := 8) hc dX11_away_21 (kC_40 _) hf (fun v2 hf => ?_)
    refine j_aload_n hc dX11_away_22 rfl ?_
    refine j_getR (u := 39) hc dX11_away_23 (fgC_X11_56_0 _) (rC_0_6 _) ?_
    refine j_getR (u := 41) hc dX11_away_26 (fgC_X11_183_39 _) (rC_39_3 _) ?_
    refine j_iload_n hc dX11_away_29 rfl ?_
    refine j_iaload (n := 8) hc dX11_away_30 (kC_41 _) hf (fun v3 hf => ?_)
    refine j_iadd hc dX11_away_31 ?_
    refine j_istore_n hc dX11_away_32 (Nat.le_of_ble_eq_true rfl) hf (fun v4 hf => ?_)
    refine j_iconst (v := (0 : Int32)) hc dX11_away_33 ci_0 ?_
    refine j_istore_n hc dX11_away_34 (Nat.le_of_ble_eq_true rfl) hf (fun v5 hf => ?_)
    exact j_sub (tX11_away_b35 n d hc n _ _ _ _ _ hf) (And.intro rfl (And.intro rfl (And.intro rfl (And.intro rfl (trivial)))))
  · refine j_iconst (v := (-1 : Int32)) hc dX11_away_11 ci_m1 ?_
    exact j_ireturn hc dX11_away_12 rfl rfl hf

set_option maxRecDepth 100000 in
theorem qX11_away (l : Launch) {al : Bool} (n d : Nat) (a1 : Int32) (I : am_I) (L : am_L) (r : Int32) (I' : am_I) (L' : am_L) (hf : fX11_away n d a1 I L = some (r, I', L')) : am_C l yX11_away cX11_away 4 (some .int) (d + 2) [.ref 0, .int a1] (KC al) (RC al) I L (some (.int r)) I' L' := by
  exact am_intro (plainFor_of_name plX11) (fun _ _ => trivial) (Nat.le_of_ble_eq_true rfl) (fun x hl hc => by subst hl; exact j_sub (tX11_away n d hc _ _ _ hf) (And.intro rfl (And.intro rfl (trivial))))
set_option maxRecDepth 100000 in
def fX11_pressOnDay_b66 (n d : Nat) (k5 : Int32 → Int32 → Int32 → Int32 → am_I → am_L → Option (Int32 × am_I × am_L)) (a1 : Int32) (a2 : Int32) (a3 : Int32) (a4 : Int32) (I : am_I) (L : am_L) : Option (Int32 × am_I × am_L) :=
  am_lt (a4 + (1 : Int32)) (fun v1 => k5 a1 a2 a3 v1 I L)

set_option maxRecDepth 100000 in
set_option maxHeartbeats 4000000 in
theorem tX11_pressOnDay_b66 {x : am_X} {al : Bool} (n d : Nat) (hc : am_ok x cX11_pressOnDay yX11_pressOnDay 5 (some .int) (d + 1) 0 0) {r : Int32} {I' : am_I} {L' : am_L} (k5 : Int32 → Int32 → Int32 → Int32 → am_I → am_L → Option (Int32 × am_I × am_L)) (hk5 : ∀ (a1 : Int32) (a2 : Int32) (a3 : Int32) (a4 : Int32) (I : am_I) (L : am_L), k5 a1 a2 a3 a4 I L = some (r, I', L') → am_J x (fun S => S = (some (.int r), (KC al), (RC al), I', L')) 5 [some (.ref 0), some (.int a1), some (.int a2), some (.int a3), some (.int a4)] [] (KC al) (RC al) I L 0 0) (a1 : Int32) (a2 : Int32) (a3 : Int32) (a4 : Int32) (I : am_I) (L : am_L) (hf : fX11_pressOnDay_b66 n d k5 a1 a2 a3 a4 I L = some (r, I', L')) : am_J x (fun S => S = (some (.int r), (KC al), (RC al), I', L')) 66 [some (.ref 0), some (.int a1), some (.int a2), some (.int a3), some (.int a4)] [] (KC al) (RC al) I L 0 0 := by
  unfold fX11_pressOnDay_b66 at hf
  refine j_iinc (w := (1 : Int32)) hc dX11_pressOnDay_66 rfl ci_1 (Nat.le_of_ble_eq_true rfl) hf (fun v1 hf => ?_)
  refine j_goto (tgt := 5) hc dX11_pressOnDay_69 rfl ?_
  exact j_sub (hk5 _ _ _ _ _ _ hf) (And.intro rfl (And.intro rfl (And.intro rfl (And.intro rfl (And.intro rfl (trivial))))))

set_option maxRecDepth 100000 in
def fX11_pressOnDay_b5w (n d : Nat) (k5 : Int32 → Int32 → Int32 → Int32 → am_I → am_L → Option (Int32 × am_I × am_L)) (a1 : Int32) (a2 : Int32) (a3 : Int32) (a4 : Int32) (I : am_I) (L : am_L) : Option (Int32 × am_I × am_L) :=
  if (I 3 0) ≤ a4 then
    (some (a3, I, L))
    else
    (am_ck a4 8 (am_lt (I 4 (a4).toNatClampNeg) (fun v1 => am_ck a1 8 (am_lt (I 4 (a1).toNatClampNeg) (fun v2 => if v1 = v2 then
      (fX11_pressOnDay_b66 n d k5 a1 a2 a3 a4 I L)
      else
      (am_ck a4 8 (am_lt (I 41 (a4).toNatClampNeg) (fun v3 => if v3 < a2 then
        (fX11_pressOnDay_b66 n d k5 a1 a2 a3 a4 I L)
        else
        (am_ck a4 8 (am_lt (I 6 (a4).toNatClampNeg) (fun v4 => am_lt (a3 + v4) (fun v5 => fX11_pressOnDay_b66 n d k5 a1 a2 v5 a4 I L))))))))))))

set_option maxRecDepth 100000 in
set_option maxHeartbeats 4000000 in
theorem tX11_pressOnDay_b5w {x : am_X} {al : Bool} (n d : Nat) (hc : am_ok x cX11_pressOnDay yX11_pressOnDay 5 (some .int) (d + 1) 0 0) {r : Int32} {I' : am_I} {L' : am_L} (k5 : Int32 → Int32 → Int32 → Int32 → am_I → am_L → Option (Int32 × am_I × am_L)) (hk5 : ∀ (a1 : Int32) (a2 : Int32) (a3 : Int32) (a4 : Int32) (I : am_I) (L : am_L), k5 a1 a2 a3 a4 I L = some (r, I', L') → am_J x (fun S => S = (some (.int r), (KC al), (RC al), I', L')) 5 [some (.ref 0), some (.int a1), some (.int a2), some (.int a3), some (.int a4)] [] (KC al) (RC al) I L 0 0) (a1 : Int32) (a2 : Int32) (a3 : Int32) (a4 : Int32) (I : am_I) (L : am_L) (hf : fX11_pressOnDay_b5w n d k5 a1 a2 a3 a4 I L = some (r, I', L')) : am_J x (fun S => S = (some (.int r), (KC al), (RC al), I', L')) 5 [some (.ref 0), some (.int a1), some (.int a2), some (.int a3), some (.int a4)] [] (KC al) (RC al) I L 0 0 := by
  unfold fX11_pressOnDay_b5w at hf
  refine j_iload hc dX11_pressOnDay_5 rfl ?_
  refine j_aload_n hc dX11_pressOnDay_7 rfl ?_
  refine j_getR (u := 3) hc dX11_pressOnDay_8 (fgC_X11_19_0 _) (rC_0_1 _) ?_
  refine j_getI hc dX11_pressOnDay_11 (fgC_X11_151_3 _) ?_
  refine j_icmp_ge (tgt := 72) hc dX11_pressOnDay_14 rfl hf (fun hf => ?_) (fun hf => ?_)
  · refine j_iload_n hc dX11_pressOnDay_72 rfl ?_
    exact j_ireturn hc dX11_pressOnDay_73 rfl rfl hf
  · refine j_aload_n hc dX11_pressOnDay_17 rfl ?_
    refine j_getR (u := 3) hc dX11_pressOnDay_18 (fgC_X11_19_0 _) (rC_0_1 _) ?_
    refine j_getR (u := 4) hc dX11_pressOnDay_21 (fgC_X11_165_3 _) (rC_3_5 _) ?_
    refine j_iload hc dX11_pressOnDay_24 rfl ?_
    refine j_iaload (n := 8) hc dX11_pressOnDay_26 (kC_4 _) hf (fun v1 hf => ?_)
    refine j_aload_n hc dX11_pressOnDay_27 rfl ?_
    refine j_getR (u := 3) hc dX11_pressOnDay_28 (fgC_X11_19_0 _) (rC_0_1 _) ?_
    refine j_getR (u := 4) hc dX11_pressOnDay_31 (fgC_X11_165_3 _) (rC_3_5 _) ?_
    refine j_iload_n hc dX11_pressOnDay_34 rfl ?_
    refine j_iaload (n := 8) hc dX11_pressOnDay_35 (kC_4 _) hf (fun v2 hf => ?_)
    refine j_icmp_eq (tgt := 66) hc dX11_pressOnDay_36 rfl hf (fun hf => ?_) (fun hf => ?_)
    · exact j_sub (tX11_pressOnDay_b66 n d hc k5 hk5 _ _ _ _ _ _ hf) (And.intro rfl (And.intro rfl (And.intro rfl (And.intro rfl (And.intro rfl (trivial))))))
    · refine j_aload_n hc dX11_pressOnDay_39 rfl ?_
      refine j_getR (u := 39) hc dX11_pressOnDay_40 (fgC_X11_56_0 _) (rC_0_6 _) ?_
      refine j_getR (u := 41) hc dX11_pressOnDay_43 (fgC_X11_183_39 _) (rC_39_3 _) ?_
      refine j_iload hc dX11_pressOnDay_46 rfl ?_
      refine j_iaload (n := 8) hc dX11_pressOnDay_48 (kC_41 _) hf (fun v3 hf => ?_)
      refine j_iload_n hc dX11_pressOnDay_49 rfl ?_
      refine j_icmp_lt (tgt := 66) hc dX11_pressOnDay_50 rfl hf (fun hf => ?_) (fun hf => ?_)
      · exact j_sub (tX11_pressOnDay_b66 n d hc k5 hk5 _ _ _ _ _ _ hf) (And.intro rfl (And.intro rfl (And.intro rfl (And.intro rfl (And.intro rfl (trivial))))))
      · refine j_iload_n hc dX11_pressOnDay_53 rfl ?_
        refine j_aload_n hc dX11_pressOnDay_54 rfl ?_
        refine j_getR (u := 3) hc dX11_pressOnDay_55 (fgC_X11_19_0 _) (rC_0_1 _) ?_
        refine j_getR (u := 6) hc dX11_pressOnDay_58 (fgC_X11_171_3 _) (rC_3_7 _) ?_
        refine j_iload hc dX11_pressOnDay_61 rfl ?_
        refine j_iaload (n := 8) hc dX11_pressOnDay_63 (kC_6 _) hf (fun v4 hf => ?_)
        refine j_iadd hc dX11_pressOnDay_64 ?_
        refine j_istore_n hc dX11_pressOnDay_65 (Nat.le_of_ble_eq_true rfl) hf (fun v5 hf => ?_)
        exact j_sub (tX11_pressOnDay_b66 n d hc k5 hk5 _ _ _ _ _ _ hf) (And.intro rfl (And.intro rfl (And.intro rfl (And.intro rfl (And.intro rfl (trivial))))))

def fX11_pressOnDay_b5 (n d : Nat) : Nat → Int32 → Int32 → Int32 → Int32 → am_I → am_L → Option (Int32 × am_I × am_L)
  | 0 => fun _ _ _ _ _ _ => none
  | m + 1 => fX11_pressOnDay_b5w n d  (fX11_pressOnDay_b5 n d m)

set_option maxRecDepth 100000 in
theorem tX11_pressOnDay_b5 {x : am_X} {al : Bool} (n d : Nat) (hc : am_ok x cX11_pressOnDay yX11_pressOnDay 5 (some .int) (d + 1) 0 0) {r : Int32} {I' : am_I} {L' : am_L} (m : Nat) : ∀ (a1 : Int32) (a2 : Int32) (a3 : Int32) (a4 : Int32) (I : am_I) (L : am_L) (hf : fX11_pressOnDay_b5 n d m a1 a2 a3 a4 I L = some (r, I', L')), am_J x (fun S => S = (some (.int r), (KC al), (RC al), I', L')) 5 [some (.ref 0), some (.int a1), some (.int a2), some (.int a3), some (.int a4)] [] (KC al) (RC al) I L 0 0 := by
  induction m with
  | zero => intro a1 a2 a3 a4 I L hf; exact (Option.some_ne_none _ hf.symm).elim
  | succ m ih => intro a1 a2 a3 a4 I L hf; exact tX11_pressOnDay_b5w n d hc (fX11_pressOnDay_b5 n d m) ih a1 a2 a3 a4 I L hf

set_option maxRecDepth 100000 in
def fX11_pressOnDay (n d : Nat) (a1 : Int32) (a2 : Int32) (I : am_I) (L : am_L) : Option (Int32 × am_I × am_L) :=
  am_lt (0 : Int32) (fun v1 => am_lt (0 : Int32) (fun v2 => fX11_pressOnDay_b5 n d n a1 a2 v1 v2 I L))

set_option maxRecDepth 100000 in
set_option maxHeartbeats 4000000 in
theorem tX11_pressOnDay {x : am_X} {al : Bool} (n d : Nat) (hc : am_ok x cX11_pressOnDay yX11_pressOnDay 5 (some .int) (d + 1) 0 0) {r : Int32} {I' : am_I} {L' : am_L} (a1 : Int32) (a2 : Int32) (I : am_I) (L : am_L) (hf : fX11_pressOnDay n d a1 a2 I L = some (r, I', L')) : am_J x (fun S => S = (some (.int r), (KC al), (RC al), I', L')) 0 [some (.ref 0), some (.int a1), some (.int a2), none, none] [] (KC al) (RC al) I L 0 0 := by
  unfold fX11_pressOnDay at hf
  refine j_iconst (v := (0 : Int32)) hc dX11_pressOnDay_0 ci_0 ?_
  refine j_istore_n hc dX11_pressOnDay_1 (Nat.le_of_ble_eq_true rfl) hf (fun v1 hf => ?_)
  refine j_iconst (v := (0 : Int32)) hc dX11_pressOnDay_2 ci_0 ?_
  refine j_istore hc dX11_pressOnDay_3 (Nat.le_of_ble_eq_true rfl) hf (fun v2 hf => ?_)
  exact j_sub (tX11_pressOnDay_b5 n d hc n _ _ _ _ _ _ hf) (And.intro rfl (And.intro rfl (And.intro rfl (And.intro rfl (And.intro rfl (trivial))))))

set_option maxRecDepth 100000 in
theorem qX11_pressOnDay (l : Launch) {al : Bool} (n d : Nat) (a1 : Int32) (a2 : Int32) (I : am_I) (L : am_L) (r : Int32) (I' : am_I) (L' : am_L) (hf : fX11_pressOnDay n d a1 a2 I L = some (r, I', L')) : am_C l yX11_pressOnDay cX11_pressOnDay 5 (some .int) (d + 1) [.ref 0, .int a1, .int a2] (KC al) (RC al) I L (some (.int r)) I' L' := by
  exact am_intro (plainFor_of_name plX11) (fun _ _ => trivial) (Nat.le_of_ble_eq_true rfl) (fun x hl hc => by subst hl; exact j_sub (tX11_pressOnDay n d hc _ _ _ _ hf) (And.intro rfl (And.intro rfl (And.intro rfl (trivial)))))
set_option maxRecDepth 100000 in
def fX11_forced_b28w (n d : Nat) (k28 : Int32 → Int32 → Int32 → Int32 → am_I → am_L → Option (Int32 × am_I × am_L)) (a1 : Int32) (a2 : Int32) (a3 : Int32) (a4 : Int32) (I : am_I) (L : am_L) : Option (Int32 × am_I × am_L) :=
  if (20 : Int32) < a4 then
    (some (a3, I, L))
    else
    (if a2 ≤ 0 then
      (some (a3, I, L))
      else
      (am_b3 (fX11_pressOnDay n d a1 a4 I L) (fun v1 I1 L1 => am_lt (a2 - ((1 : Int32) + v1)) (fun v2 => am_lt a4 (fun v3 => am_lt (a4 + (1 : Int32)) (fun v4 => k28 a1 v2 v3 v4 I1 L1))))))

set_option maxRecDepth 100000 in
set_option maxHeartbeats 4000000 in
theorem tX11_forced_b28w {x : am_X} {al : Bool} (n d : Nat) (hc : am_ok x cX11_forced yX11_forced 5 (some .int) (d + 2) 0 0) {r : Int32} {I' : am_I} {L' : am_L} (k28 : Int32 → Int32 → Int32 → Int32 → am_I → am_L → Option (Int32 × am_I × am_L)) (hk28 : ∀ (a1 : Int32) (a2 : Int32) (a3 : Int32) (a4 : Int32) (I : am_I) (L : am_L), k28 a1 a2 a3 a4 I L = some (r, I', L') → am_J x (fun S => S = (some (.int r), (KC al), (RC al), I', L')) 28 [some (.ref 0), some (.int a1), some (.int a2), some (.int a3), some (.int a4)] [] (KC al) (RC al) I L 0 0) (a1 : Int32) (a2 : Int32) (a3 : Int32) (a4 : Int32) (I : am_I) (L : am_L) (hf : fX11_forced_b28w n d k28 a1 a2 a3 a4 I L = some (r, I', L')) : am_J x (fun S => S = (some (.int r), (KC al), (RC al), I', L')) 28 [some (.ref 0), some (.int a1), some (.int a2), some (.int a3), some (.int a4)] [] (KC al) (RC al) I L 0 0 := by
  unfold fX11_forced_b28w at hf
  refine j_iload hc dX11_forced_28 rfl ?_
  refine j_bipush (v := (20 : Int32)) hc dX11_forced_30 cb_20 ?_
  refine j_icmp_gt (tgt := 60) hc dX11_forced_32 rfl hf (fun hf => ?_) (fun hf => ?_)
  · refine j_iload_n hc dX11_forced_60 rfl ?_
    exact j_ireturn hc dX11_forced_61 rfl rfl hf
  · refine j_iload_n hc dX11_forced_35 rfl ?_
    refine j_if_le (tgt := 60) hc dX11_forced_36 rfl hf (fun hf => ?_) (fun hf => ?_)
    · refine j_iload_n hc dX11_forced_60 rfl ?_
      exact j_ireturn hc dX11_forced_61 rfl rfl hf
    · refine j_iload_n hc dX11_forced_39 rfl ?_
      refine j_iconst (v := (1 : Int32)) hc dX11_forced_40 ci_1 ?_
      refine j_aload_n hc dX11_forced_41 rfl ?_
      refine j_iload_n hc dX11_forced_42 rfl ?_
      refine j_iload hc dX11_forced_43 rfl ?_
      refine j_callVI (t := 0) (As := [.int a1, .int a4]) hc dX11_forced_45 kw_1240 mX11_pressOnDay (kC_0 _) clX11 rfl (by omega) (Nat.le_of_ble_eq_true rfl) (Nat.le_of_ble_eq_true rfl) ⟨Nat.le_refl _, Nat.le_refl _⟩ hf (fun v I' L' h => qX11_pressOnDay x.2.1 n d a1 a4 I L v I' L' h) (fun v1 I1 L1 hf => ?_)
      refine j_iadd hc dX11_forced_48 ?_
      refine j_isub hc dX11_forced_49 ?_
      refine j_istore_n hc dX11_forced_50 (Nat.le_of_ble_eq_true rfl) hf (fun v2 hf => ?_)
      refine j_iload hc dX11_forced_51 rfl ?_
      refine j_istore_n hc dX11_forced_53 (Nat.le_of_ble_eq_true rfl) hf (fun v3 hf => ?_)
      refine j_iinc (w := (1 : Int32)) hc dX11_forced_54 rfl ci_1 (Nat.le_of_ble_eq_true rfl) hf (fun v4 hf => ?_)
      refine j_goto (tgt := 28) hc dX11_forced_57 rfl ?_
      exact j_sub (hk28 _ _ _ _ _ _ hf) (And.intro rfl (And.intro rfl (And.intro rfl (And.intro rfl (And.intro rfl (trivial))))))

def fX11_forced_b28 (n d : Nat) : Nat → Int32 → Int32 → Int32 → Int32 → am_I → am_L → Option (Int32 × am_I × am_L)
  | 0 => fun _ _ _ _ _ _ => none
  | m + 1 => fX11_forced_b28w n d  (fX11_forced_b28 n d m)

set_option maxRecDepth 100000 in
theorem tX11_forced_b28 {x : am_X} {al : Bool} (n d : Nat) (hc : am_ok x cX11_forced yX11_forced 5 (some .int) (d + 2) 0 0) {r : Int32} {I' : am_I} {L' : am_L} (m : Nat) : ∀ (a1 : Int32) (a2 : Int32) (a3 : Int32) (a4 : Int32) (I : am_I) (L : am_L) (hf : fX11_forced_b28 n d m a1 a2 a3 a4 I L = some (r, I', L')), am_J x (fun S => S = (some (.int r), (KC al), (RC al), I', L')) 28 [some (.ref 0), some (.int a1), some (.int a2), some (.int a3), some (.int a4)] [] (KC al) (RC al) I L 0 0 := by
  induction m with
  | zero => intro a1 a2 a3 a4 I L hf; exact (Option.some_ne_none _ hf.symm).elim
  | succ m ih => intro a1 a2 a3 a4 I L hf; exact tX11_forced_b28w n d hc (fX11_forced_b28 n d m) ih a1 a2 a3 a4 I L hf

set_option maxRecDepth 100000 in
def fX11_forced (n d : Nat) (a1 : Int32) (I : am_I) (L : am_L) : Option (Int32 × am_I × am_L) :=
  am_b3 (fX9_hasMan_war n d a1 I L) (fun v1 I1 L1 => if v1 = 0 then
    (some ((-1 : Int32), I1, L1))
    else
    (am_ck a1 8 (am_lt (I1 40 (a1).toNatClampNeg) (fun v2 => am_lt v2 (fun v3 => am_lt (0 : Int32) (fun v4 => am_lt (1 : Int32) (fun v5 => fX11_forced_b28 n d n a1 v3 v4 v5 I1 L1)))))))

set_option maxRecDepth 100000 in
set_option maxHeartbeats 4000000 in
theorem tX11_forced {x : am_X} {al : Bool} (n d : Nat) (hc : am_ok x cX11_forced yX11_forced 5 (some .int) (d + 2) 0 0) {r : Int32} {I' : am_I} {L' : am_L} (a1 : Int32) (I : am_I) (L : am_L) (hf : fX11_forced n d a1 I L = some (r, I', L')) : am_J x (fun S => S = (some (.int r), (KC al), (RC al), I', L')) 0 [some (.ref 0), some (.int a1), none, none, none] [] (KC al) (RC al) I L 0 0 := by
  unfold fX11_forced at hf
  refine j_aload_n hc dX11_forced_0 rfl ?_
  refine j_getR (u := 3) hc dX11_forced_1 (fgC_X11_19_0 _) (rC_0_1 _) ?_
  refine j_iload_n hc dX11_forced_4 rfl ?_
  refine j_callVI (t := 3) (As := [.int a1]) hc dX11_forced_5 kw_978 mX9_hasMan (kC_3 _) clX9 rfl (by omega) (Nat.le_of_ble_eq_true rfl) (Nat.le_of_ble_eq_true rfl) ⟨Nat.le_refl _, Nat.le_refl _⟩ hf (fun v I' L' h => qX9_hasMan_war x.2.1 n d a1 I L v I' L' h) (fun v1 I1 L1 hf => ?_)
  refine j_if_ne (tgt := 13) hc dX11_forced_8 rfl hf (fun hf => ?_) (fun hf => ?_)
  · refine j_aload_n hc dX11_forced_13 rfl ?_
    refine j_getR (u := 39) hc dX11_forced_14 (fgC_X11_56_0 _) (rC_0_6 _) ?_
    refine j_getR (u := 40) hc dX11_forced_17 (fgC_X11_168_39 _) (rC_39_2 _) ?_
    refine j_iload_n hc dX11_forced_20 rfl ?_
    refine j_iaload (n := 8) hc dX11_forced_21 (kC_40 _) hf (fun v2 hf => ?_)
    refine j_istore_n hc dX11_forced_22 (Nat.le_of_ble_eq_true rfl) hf (fun v3 hf => ?_)
    refine j_iconst (v := (0 : Int32)) hc dX11_forced_23 ci_0 ?_
    refine j_istore_n hc dX11_forced_24 (Nat.le_of_ble_eq_true rfl) hf (fun v4 hf => ?_)
    refine j_iconst (v := (1 : Int32)) hc dX11_forced_25 ci_1 ?_
    refine j_istore hc dX11_forced_26 (Nat.le_of_ble_eq_true rfl) hf (fun v5 hf => ?_)
    exact j_sub (tX11_forced_b28 n d hc n _ _ _ _ _ _ hf) (And.intro rfl (And.intro rfl (And.intro rfl (And.intro rfl (And.intro rfl (trivial))))))
  · refine j_iconst (v := (-1 : Int32)) hc dX11_forced_11 ci_m1 ?_
    exact j_ireturn hc dX11_forced_12 rfl rfl hf

set_option maxRecDepth 100000 in
theorem qX11_forced (l : Launch) {al : Bool} (n d : Nat) (a1 : Int32) (I : am_I) (L : am_L) (r : Int32) (I' : am_I) (L' : am_L) (hf : fX11_forced n d a1 I L = some (r, I', L')) : am_C l yX11_forced cX11_forced 5 (some .int) (d + 2) [.ref 0, .int a1] (KC al) (RC al) I L (some (.int r)) I' L' := by
  exact am_intro (plainFor_of_name plX11) (fun _ _ => trivial) (Nat.le_of_ble_eq_true rfl) (fun x hl hc => by subst hl; exact j_sub (tX11_forced n d hc _ _ _ hf) (And.intro rfl (And.intro rfl (trivial))))
set_option maxRecDepth 100000 in
def fX11_farthest_b51 (n d : Nat) (k4 : Int32 → Int32 → Int32 → am_I → am_L → Option (Int32 × am_I × am_L)) (a1 : Int32) (a2 : Int32) (a3 : Int32) (I : am_I) (L : am_L) : Option (Int32 × am_I × am_L) :=
  am_lt (a3 + (1 : Int32)) (fun v1 => k4 a1 a2 v1 I L)

set_option maxRecDepth 100000 in
set_option maxHeartbeats 4000000 in
theorem tX11_farthest_b51 {x : am_X} {al : Bool} (n d : Nat) (hc : am_ok x cX11_farthest yX11_farthest 4 (some .int) (d + 1) 0 0) {r : Int32} {I' : am_I} {L' : am_L} (k4 : Int32 → Int32 → Int32 → am_I → am_L → Option (Int32 × am_I × am_L)) (hk4 : ∀ (a1 : Int32) (a2 : Int32) (a3 : Int32) (I : am_I) (L : am_L), k4 a1 a2 a3 I L = some (r, I', L') → am_J x (fun S => S = (some (.int r), (KC al), (RC al), I', L')) 4 [some (.ref 0), some (.int a1), some (.int a2), some (.int a3)] [] (KC al) (RC al) I L 0 0) (a1 : Int32) (a2 : Int32) (a3 : Int32) (I : am_I) (L : am_L) (hf : fX11_farthest_b51 n d k4 a1 a2 a3 I L = some (r, I', L')) : am_J x (fun S => S = (some (.int r), (KC al), (RC al), I', L')) 51 [some (.ref 0), some (.int a1), some (.int a2), some (.int a3)] [] (KC al) (RC al) I L 0 0 := by
  unfold fX11_farthest_b51 at hf
  refine j_iinc (w := (1 : Int32)) hc dX11_farthest_51 rfl ci_1 (Nat.le_of_ble_eq_true rfl) hf (fun v1 hf => ?_)
  refine j_goto (tgt := 4) hc dX11_farthest_54 rfl ?_
  exact j_sub (hk4 _ _ _ _ _ hf) (And.intro rfl (And.intro rfl (And.intro rfl (And.intro rfl (trivial)))))

set_option maxRecDepth 100000 in
def fX11_farthest_b49 (n d : Nat) (k4 : Int32 → Int32 → Int32 → am_I → am_L → Option (Int32 × am_I × am_L)) (a1 : Int32) (a3 : Int32) (I : am_I) (L : am_L) : Option (Int32 × am_I × am_L) :=
  am_lt a3 (fun v1 => fX11_farthest_b51 n d k4 a1 v1 a3 I L)

set_option maxRecDepth 100000 in
set_option maxHeartbeats 4000000 in
theorem tX11_farthest_b49 {x : am_X} {al : Bool} (n d : Nat) (hc : am_ok x cX11_farthest yX11_farthest 4 (some .int) (d + 1) 0 0) {r : Int32} {I' : am_I} {L' : am_L} (k4 : Int32 → Int32 → Int32 → am_I → am_L → Option (Int32 × am_I × am_L)) (hk4 : ∀ (a1 : Int32) (a2 : Int32) (a3 : Int32) (I : am_I) (L : am_L), k4 a1 a2 a3 I L = some (r, I', L') → am_J x (fun S => S = (some (.int r), (KC al), (RC al), I', L')) 4 [some (.ref 0), some (.int a1), some (.int a2), some (.int a3)] [] (KC al) (RC al) I L 0 0) (a1 : Int32) (a3 : Int32) (I : am_I) (L : am_L) (hf : fX11_farthest_b49 n d k4 a1 a3 I L = some (r, I', L')) : am_J x (fun S => S = (some (.int r), (KC al), (RC al), I', L')) 49 [some (.ref 0), some (.int a1), none, some (.int a3)] [] (KC al) (RC al) I L 0 0 := by
  unfold fX11_farthest_b49 at hf
  refine j_iload_n hc dX11_farthest_49 rfl ?_
  refine j_istore_n hc dX11_farthest_50 (Nat.le_of_ble_eq_true rfl) hf (fun v1 hf => ?_)
  exact j_sub (tX11_farthest_b51 n d hc k4 hk4 _ _ _ _ _ hf) (And.intro rfl (And.intro rfl (And.intro rfl (And.intro rfl (trivial)))))

set_option maxRecDepth 100000 in
def fX11_farthest_b4w (n d : Nat) (k4 : Int32 → Int32 → Int32 → am_I → am_L → Option (Int32 × am_I × am_L)) (a1 : Int32) (a2 : Int32) (a3 : Int32) (I : am_I) (L : am_L) : Option (Int32 × am_I × am_L) :=
  if (I 3 0) ≤ a3 then
    (some (a2, I, L))
    else
    (if ((a1 >>> (a3 &&& 31)) &&& (1 : Int32)) = 0 then
      (fX11_farthest_b51 n d k4 a1 a2 a3 I L)
      else
      (if a2 = (-1 : Int32) then
        (fX11_farthest_b49 n d k4 a1 a3 I L)
        else
        (am_ck a3 8 (am_lt (I 40 (a3).toNatClampNeg) (fun v1 => am_ck a2 8 (am_lt (I 40 (a2).toNatClampNeg) (fun v2 => if v1 ≤ v2 then
          (fX11_farthest_b51 n d k4 a1 a2 a3 I L)
          else
          (fX11_farthest_b49 n d k4 a1 a3 I L))))))))

set_option maxRecDepth 100000 in
set_option maxHeartbeats 4000000 in
theorem tX11_farthest_b4w {x : am_X} {al : Bool} (n d : Nat) (hc : am_ok x cX11_farthest yX11_farthest 4 (some .int) (d + 1) 0 0) {r : Int32} {I' : am_I} {L' : am_L} (k4 : Int32 → Int32 → Int32 → am_I → am_L → Option (Int32 × am_I × am_L)) (hk4 : ∀ (a1 : Int32) (a2 : Int32) (a3 : Int32) (I : am_I) (L : am_L), k4 a1 a2 a3 I L = some (r, I', L') → am_J x (fun S => S = (some (.int r), (KC al), (RC al), I', L')) 4 [some (.ref 0), some (.int a1), some (.int a2), some (.int a3)] [] (KC al) (RC al) I L 0 0) (a1 : Int32) (a2 : Int32) (a3 : Int32) (I : am_I) (L : am_L) (hf : fX11_farthest_b4w n d k4 a1 a2 a3 I L = some (r, I', L')) : am_J x (fun S => S = (some (.int r), (KC al), (RC al), I', L')) 4 [some (.ref 0), some (.int a1), some (.int a2), some (.int a3)] [] (KC al) (RC al) I L 0 0 := by
  unfold fX11_farthest_b4w at hf
  refine j_iload_n hc dX11_farthest_4 rfl ?_
  refine j_aload_n hc dX11_farthest_5 rfl ?_
  refine j_getR (u := 3) hc dX11_farthest_6 (fgC_X11_19_0 _) (rC_0_1 _) ?_
  refine j_getI hc dX11_farthest_9 (fgC_X11_151_3 _) ?_
  refine j_icmp_ge (tgt := 57) hc dX11_farthest_12 rfl hf (fun hf => ?_) (fun hf => ?_)
  · refine j_iload_n hc dX11_farthest_57 rfl ?_
    exact j_ireturn hc dX11_farthest_58 rfl rfl hf
  · refine j_iload_n hc dX11_farthest_15 rfl ?_
    refine j_iload_n hc dX11_farthest_16 rfl ?_
    refine j_ishr hc dX11_farthest_17 ?_
    refine j_iconst (v := (1 : Int32)) hc dX11_farthest_18 ci_1 ?_
    refine j_iand hc dX11_farthest_19 ?_
    refine j_if_eq (tgt := 51) hc dX11_farthest_20 rfl hf (fun hf => ?_) (fun hf => ?_)
    · exact j_sub (tX11_farthest_b51 n d hc k4 hk4 _ _ _ _ _ hf) (And.intro rfl (And.intro rfl (And.intro rfl (And.intro rfl (trivial)))))
    · refine j_iload_n hc dX11_farthest_23 rfl ?_
      refine j_iconst (v := (-1 : Int32)) hc dX11_farthest_24 ci_m1 ?_
      refine j_icmp_eq (tgt := 49) hc dX11_farthest_25 rfl hf (fun hf => ?_) (fun hf => ?_)
      · exact j_sub (tX11_farthest_b49 n d hc k4 hk4 _ _ _ _ hf) (And.intro rfl (And.intro rfl (And.intro rfl (trivial))))
      · refine j_aload_n hc dX11_farthest_28 rfl ?_
        refine j_getR (u := 39) hc dX11_farthest_29 (fgC_X11_56_0 _) (rC_0_6 _) ?_
        refine j_getR (u := 40) hc dX11_farthest_32 (fgC_X11_168_39 _) (rC_39_2 _) ?_
        refine j_iload_n hc dX11_farthest_35 rfl ?_
        refine j_iaload (n := 8) hc dX11_farthest_36 (kC_40 _) hf (fun v1 hf => ?_)
        refine j_aload_n hc dX11_farthest_37 rfl ?_
        refine j_getR (u := 39) hc dX11_farthest_38 (fgC_X11_56_0 _) (rC_0_6 _) ?_
        refine j_getR (u := 40) hc dX11_farthest_41 (fgC_X11_168_39 _) (rC_39_2 _) ?_
        refine j_iload_n hc dX11_farthest_44 rfl ?_
        refine j_iaload (n := 8) hc dX11_farthest_45 (kC_40 _) hf (fun v2 hf => ?_)
        refine j_icmp_le (tgt := 51) hc dX11_farthest_46 rfl hf (fun hf => ?_) (fun hf => ?_)
        · exact j_sub (tX11_farthest_b51 n d hc k4 hk4 _ _ _ _ _ hf) (And.intro rfl (And.intro rfl (And.intro rfl (And.intro rfl (trivial)))))
        · exact j_sub (tX11_farthest_b49 n d hc k4 hk4 _ _ _ _ hf) (And.intro rfl (And.intro rfl (And.intro rfl (trivial))))

def fX11_farthest_b4 (n d : Nat) : Nat → Int32 → Int32 → Int32 → am_I → am_L → Option (Int32 × am_I × am_L)
  | 0 => fun _ _ _ _ _ => none
  | m + 1 => fX11_farthest_b4w n d  (fX11_farthest_b4 n d m)

set_option maxRecDepth 100000 in
theorem tX11_farthest_b4 {x : am_X} {al : Bool} (n d : Nat) (hc : am_ok x cX11_farthest yX11_farthest 4 (some .int) (d + 1) 0 0) {r : Int32} {I' : am_I} {L' : am_L} (m : Nat) : ∀ (a1 : Int32) (a2 : Int32) (a3 : Int32) (I : am_I) (L : am_L) (hf : fX11_farthest_b4 n d m a1 a2 a3 I L = some (r, I', L')), am_J x (fun S => S = (some (.int r), (KC al), (RC al), I', L')) 4 [some (.ref 0), some (.int a1), some (.int a2), some (.int a3)] [] (KC al) (RC al) I L 0 0 := by
  induction m with
  | zero => intro a1 a2 a3 I L hf; exact (Option.some_ne_none _ hf.symm).elim
  | succ m ih => intro a1 a2 a3 I L hf; exact tX11_farthest_b4w n d hc (fX11_farthest_b4 n d m) ih a1 a2 a3 I L hf

set_option maxRecDepth 100000 in
def fX11_farthest (n d : Nat) (a1 : Int32) (I : am_I) (L : am_L) : Option (Int32 × am_I × am_L) :=
  am_lt (-1 : Int32) (fun v1 => am_lt (0 : Int32) (fun v2 => fX11_farthest_b4 n d n a1 v1 v2 I L))

set_option maxRecDepth 100000 in
set_option maxHeartbeats 4000000 in
theorem tX11_farthest {x : am_X} {al : Bool} (n d : Nat) (hc : am_ok x cX11_farthest yX11_farthest 4 (some .int) (d + 1) 0 0) {r : Int32} {I' : am_I} {L' : am_L} (a1 : Int32) (I : am_I) (L : am_L) (hf : fX11_farthest n d a1 I L = some (r, I', L')) : am_J x (fun S => S = (some (.int r), (KC al), (RC al), I', L')) 0 [some (.ref 0), some (.int a1), none, none] [] (KC al) (RC al) I L 0 0 := by
  unfold fX11_farthest at hf
  refine j_iconst (v := (-1 : Int32)) hc dX11_farthest_0 ci_m1 ?_
  refine j_istore_n hc dX11_farthest_1 (Nat.le_of_ble_eq_true rfl) hf (fun v1 hf => ?_)
  refine j_iconst (v := (0 : Int32)) hc dX11_farthest_2 ci_0 ?_
  refine j_istore_n hc dX11_farthest_3 (Nat.le_of_ble_eq_true rfl) hf (fun v2 hf => ?_)
  exact j_sub (tX11_farthest_b4 n d hc n _ _ _ _ _ hf) (And.intro rfl (And.intro rfl (And.intro rfl (And.intro rfl (trivial)))))

set_option maxRecDepth 100000 in
theorem qX11_farthest (l : Launch) {al : Bool} (n d : Nat) (a1 : Int32) (I : am_I) (L : am_L) (r : Int32) (I' : am_I) (L' : am_L) (hf : fX11_farthest n d a1 I L = some (r, I', L')) : am_C l yX11_farthest cX11_farthest 4 (some .int) (d + 1) [.ref 0, .int a1] (KC al) (RC al) I L (some (.int r)) I' L' := by
  exact am_intro (plainFor_of_name plX11) (fun _ _ => trivial) (Nat.le_of_ble_eq_true rfl) (fun x hl hc => by subst hl; exact j_sub (tX11_farthest n d hc _ _ _ hf) (And.intro rfl (And.intro rfl (trivial))))
set_option maxRecDepth 100000 in
def fX11_pony (n d : Nat) (a1 : Int32) (I : am_I) (L : am_L) : Option (Int32 × am_I × am_L) :=
  am_b3 (fX11_isSideOfWar n d a1 I L) (fun v1 I1 L1 => if v1 = 0 then
    (some ((-1 : Int32), I1, L1))
    else
    (am_ck a1 2 (am_lt (I1 13 (a1).toNatClampNeg) (fun v2 => am_b3 (fX11_farthest n d v2 I1 L1) (fun v3 I3 L3 => some (v3, I3, L3))))))

set_option maxRecDepth 100000 in
set_option maxHeartbeats 4000000 in
theorem tX11_pony {x : am_X} {al : Bool} (n d : Nat) (hc : am_ok x cX11_pony yX11_pony 2 (some .int) (d + 2) 0 0) {r : Int32} {I' : am_I} {L' : am_L} (a1 : Int32) (I : am_I) (L : am_L) (hf : fX11_pony n d a1 I L = some (r, I', L')) : am_J x (fun S => S = (some (.int r), (KC al), (RC al), I', L')) 0 [some (.ref 0), some (.int a1)] [] (KC al) (RC al) I L 0 0 := by
  unfold fX11_pony at hf
  refine j_aload_n hc dX11_pony_0 rfl ?_
  refine j_iload_n hc dX11_pony_1 rfl ?_
  refine j_callVI (t := 0) (As := [.int a1]) hc dX11_pony_2 kw_1152 mX11_isSideOfWar (kC_0 _) clX11 rfl (by omega) (Nat.le_of_ble_eq_true rfl) (Nat.le_of_ble_eq_true rfl) ⟨Nat.le_refl _, Nat.le_refl _⟩ hf (fun v I' L' h => qX11_isSideOfWar x.2.1 n d a1 I L v I' L' h) (fun v1 I1 L1 hf => ?_)
  refine j_if_ne (tgt := 10) hc dX11_pony_5 rfl hf (fun hf => ?_) (fun hf => ?_)
  · refine j_aload_n hc dX11_pony_10 rfl ?_
    refine j_aload_n hc dX11_pony_11 rfl ?_
    refine j_getR (u := 3) hc dX11_pony_12 (fgC_X11_19_0 _) (rC_0_1 _) ?_
    refine j_getR (u := 13) hc dX11_pony_15 (fgC_X11_397_3 _) (rC_3_14 _) ?_
    refine j_iload_n hc dX11_pony_18 rfl ?_
    refine j_iaload (n := 2) hc dX11_pony_19 (kC_13 _) hf (fun v2 hf => ?_)
    refine j_callVI (t := 0) (As := [.int v2]) hc dX11_pony_20 kw_1252 mX11_farthest (kC_0 _) clX11 rfl (by omega) (Nat.le_of_ble_eq_true rfl) (Nat.le_of_ble_eq_true rfl) ⟨Nat.le_refl _, Nat.le_refl _⟩ hf (fun v I' L' h => qX11_farthest x.2.1 n d v2 I1 L1 v I' L' h) (fun v3 I3 L3 hf => ?_)
    exact j_ireturn hc dX11_pony_23 rfl rfl hf
  · refine j_iconst (v := (-1 : Int32)) hc dX11_pony_8 ci_m1 ?_
    exact j_ireturn hc dX11_pony_9 rfl rfl hf

set_option maxRecDepth 100000 in
theorem qX11_pony (l : Launch) {al : Bool} (n d : Nat) (a1 : Int32) (I : am_I) (L : am_L) (r : Int32) (I' : am_I) (L' : am_L) (hf : fX11_pony n d a1 I L = some (r, I', L')) : am_C l yX11_pony cX11_pony 2 (some .int) (d + 2) [.ref 0, .int a1] (KC al) (RC al) I L (some (.int r)) I' L' := by
  exact am_intro (plainFor_of_name plX11) (fun _ _ => trivial) (Nat.le_of_ble_eq_true rfl) (fun x hl hc => by subst hl; exact j_sub (tX11_pony n d hc _ _ _ hf) (And.intro rfl (And.intro rfl (trivial))))
set_option maxRecDepth 100000 in
def fX11_soonest (n d : Nat) (a1 : Int32) (I : am_I) (L : am_L) : Option (Int32 × am_I × am_L) :=
  am_b3 (fX11_pony n d a1 I L) (fun v1 I1 L1 => am_lt v1 (fun v2 => if v2 = (-1 : Int32) then
    (some ((-1 : Int32), I1, L1))
    else
    (am_ck v2 8 (am_lt (I1 40 (v2).toNatClampNeg) (fun v3 => some (v3, I1, L1))))))

set_option maxRecDepth 100000 in
set_option maxHeartbeats 4000000 in
theorem tX11_soonest {x : am_X} {al : Bool} (n d : Nat) (hc : am_ok x cX11_soonest yX11_soonest 3 (some .int) (d + 3) 0 0) {r : Int32} {I' : am_I} {L' : am_L} (a1 : Int32) (I : am_I) (L : am_L) (hf : fX11_soonest n d a1 I L = some (r, I', L')) : am_J x (fun S => S = (some (.int r), (KC al), (RC al), I', L')) 0 [some (.ref 0), some (.int a1), none] [] (KC al) (RC al) I L 0 0 := by
  unfold fX11_soonest at hf
  refine j_aload_n hc dX11_soonest_0 rfl ?_
  refine j_iload_n hc dX11_soonest_1 rfl ?_
  refine j_callVI (t := 0) (As := [.int a1]) hc dX11_soonest_2 kw_1248 mX11_pony (kC_0 _) clX11 rfl (by omega) (Nat.le_of_ble_eq_true rfl) (Nat.le_of_ble_eq_true rfl) ⟨Nat.le_refl _, Nat.le_refl _⟩ hf (fun v I' L' h => qX11_pony x.2.1 n d a1 I L v I' L' h) (fun v1 I1 L1 hf => ?_)
  refine j_istore_n hc dX11_soonest_5 (Nat.le_of_ble_eq_true rfl) hf (fun v2 hf => ?_)
  refine j_iload_n hc dX11_soonest_6 rfl ?_
  refine j_iconst (v := (-1 : Int32)) hc dX11_soonest_7 ci_m1 ?_
  refine j_icmp_ne (tgt := 15) hc dX11_soonest_8 rfl hf (fun hf => ?_) (fun hf => ?_)
  · refine j_aload_n hc dX11_soonest_15 rfl ?_
    refine j_getR (u := 39) hc dX11_soonest_16 (fgC_X11_56_0 _) (rC_0_6 _) ?_
    refine j_getR (u := 40) hc dX11_soonest_19 (fgC_X11_168_39 _) (rC_39_2 _) ?_
    refine j_iload_n hc dX11_soonest_22 rfl ?_
    refine j_iaload (n := 8) hc dX11_soonest_23 (kC_40 _) hf (fun v3 hf => ?_)
    exact j_ireturn hc dX11_soonest_24 rfl rfl hf
  · refine j_iconst (v := (-1 : Int32)) hc dX11_soonest_11 ci_m1 ?_
    refine j_goto (tgt := 24) hc dX11_soonest_12 rfl ?_
    exact j_ireturn hc dX11_soonest_24 rfl rfl hf

set_option maxRecDepth 100000 in
theorem qX11_soonest (l : Launch) {al : Bool} (n d : Nat) (a1 : Int32) (I : am_I) (L : am_L) (r : Int32) (I' : am_I) (L' : am_L) (hf : fX11_soonest n d a1 I L = some (r, I', L')) : am_C l yX11_soonest cX11_soonest 3 (some .int) (d + 3) [.ref 0, .int a1] (KC al) (RC al) I L (some (.int r)) I' L' := by
  exact am_intro (plainFor_of_name plX11) (fun _ _ => trivial) (Nat.le_of_ble_eq_true rfl) (fun x hl hc => by subst hl; exact j_sub (tX11_soonest n d hc _ _ _ hf) (And.intro rfl (And.intro rfl (trivial))))
set_option maxRecDepth 100000 in
def fX9_hasSet_war (n d : Nat) (a1 : Int32) (I : am_I) (L : am_L) : Option (Int32 × am_I × am_L) :=
  if (I 3 0) ≤ 0 then
    (some ((0 : Int32), I, L))
    else
    (if a1 < 0 then
      (some ((0 : Int32), I, L))
      else
      (am_b3 (fX9_allBits_war n d I L) (fun v1 I1 L1 => if v1 < a1 then
        (some ((0 : Int32), I1, L1))
        else
        (some ((1 : Int32), I1, L1)))))

set_option maxRecDepth 100000 in
set_option maxHeartbeats 4000000 in
theorem tX9_hasSet_war {x : am_X} {al : Bool} (n d : Nat) (hc : am_ok x cX9_hasSet yX9_hasSet 2 (some .boolean) (d + 2) 0 0) {r : Int32} {I' : am_I} {L' : am_L} (a1 : Int32) (I : am_I) (L : am_L) (hf : fX9_hasSet_war n d a1 I L = some (r, I', L')) : am_J x (fun S => S = (some (.int r), (KC al), (RC al), I', L')) 0 [some (.ref 3), some (.int a1)] [] (KC al) (RC al) I L 0 0 := by
  unfold fX9_hasSet_war at hf
  refine j_aload_n hc dX9_hasSet_0 rfl ?_
  refine j_getI hc dX9_hasSet_1 (fgC_X9_7_3 _) ?_
  refine j_if_le (tgt := 23) hc dX9_hasSet_4 rfl hf (fun hf => ?_) (fun hf => ?_)
  · refine j_iconst (v := (0 : Int32)) hc dX9_hasSet_23 ci_0 ?_
    exact j_zret hc dX9_hasSet_24 rfl rfl (Or.inl rfl) hf
  · refine j_iload_n hc dX9_hasSet_7 rfl ?_
    refine j_if_lt (tgt := 23) hc dX9_hasSet_8 rfl hf (fun hf => ?_) (fun hf => ?_)
    · refine j_iconst (v := (0 : Int32)) hc dX9_hasSet_23 ci_0 ?_
      exact j_zret hc dX9_hasSet_24 rfl rfl (Or.inl rfl) hf
    · refine j_iload_n hc dX9_hasSet_11 rfl ?_
      refine j_aload_n hc dX9_hasSet_12 rfl ?_
      refine j_callVI (t := 3) (As := []) hc dX9_hasSet_13 kw_1295 mX9_allBits (kC_3 _) clX9 rfl (by omega) (Nat.le_of_ble_eq_true rfl) (Nat.le_of_ble_eq_true rfl) ⟨Nat.le_refl _, Nat.le_refl _⟩ hf (fun v I' L' h => qX9_allBits_war x.2.1 n d I L v I' L' h) (fun v1 I1 L1 hf => ?_)
      refine j_icmp_gt (tgt := 23) hc dX9_hasSet_16 rfl hf (fun hf => ?_) (fun hf => ?_)
      · refine j_iconst (v := (0 : Int32)) hc dX9_hasSet_23 ci_0 ?_
        exact j_zret hc dX9_hasSet_24 rfl rfl (Or.inl rfl) hf
      · refine j_iconst (v := (1 : Int32)) hc dX9_hasSet_19 ci_1 ?_
        refine j_goto (tgt := 24) hc dX9_hasSet_20 rfl ?_
        exact j_zret hc dX9_hasSet_24 rfl rfl (Or.inr rfl) hf

set_option maxRecDepth 100000 in
theorem qX9_hasSet_war (l : Launch) {al : Bool} (n d : Nat) (a1 : Int32) (I : am_I) (L : am_L) (r : Int32) (I' : am_I) (L' : am_L) (hf : fX9_hasSet_war n d a1 I L = some (r, I', L')) : am_C l yX9_hasSet cX9_hasSet 2 (some .boolean) (d + 2) [.ref 3, .int a1] (KC al) (RC al) I L (some (.int r)) I' L' := by
  exact am_intro (plainFor_of_name plX9) (fun _ _ => trivial) (Nat.le_of_ble_eq_true rfl) (fun x hl hc => by subst hl; exact j_sub (tX9_hasSet_war n d hc _ _ _ hf) (And.intro rfl (And.intro rfl (trivial))))
set_option maxRecDepth 100000 in
def fX9_share_war_b86 (n d : Nat) (s0 : Int32) (a1 : Int32) (a3 : Int32) (I : am_I) (L : am_L) : Option (Int32 × am_I × am_L) :=
  am_lt s0 (fun v1 => am_ck a1 8 (am_lt (I 4 (a1).toNatClampNeg) (fun v2 => if v2 = v1 then
    (some ((a3 - (I 3 2)), I, L))
    else
    (some ((a3 + (I 3 2)), I, L)))))

set_option maxRecDepth 100000 in
set_option maxHeartbeats 4000000 in
theorem tX9_share_war_b86 {x : am_X} {al : Bool} (n d : Nat) (hc : am_ok x cX9_share yX9_share 7 (some .int) (d + 1) 0 0) {r : Int32} {I' : am_I} {L' : am_L} (s0 : Int32) (a1 : Int32) (a3 : Int32) (I : am_I) (L : am_L) (hf : fX9_share_war_b86 n d s0 a1 a3 I L = some (r, I', L')) : am_J x (fun S => S = (some (.int r), (KC al), (RC al), I', L')) 86 [some (.ref 3), some (.int a1), none, some (.int a3), none, none, none] [.int s0] (KC al) (RC al) I L 0 0 := by
  unfold fX9_share_war_b86 at hf
  refine j_istore hc dX9_share_86 (Nat.le_of_ble_eq_true rfl) hf (fun v1 hf => ?_)
  refine j_aload_n hc dX9_share_88 rfl ?_
  refine j_getR (u := 4) hc dX9_share_89 (fgC_X9_26_3 _) (rC_3_5 _) ?_
  refine j_iload_n hc dX9_share_92 rfl ?_
  refine j_iaload (n := 8) hc dX9_share_93 (kC_4 _) hf (fun v2 hf => ?_)
  refine j_iload hc dX9_share_94 rfl ?_
  refine j_icmp_ne (tgt := 108) hc dX9_share_96 rfl hf (fun hf => ?_) (fun hf => ?_)
  · refine j_iload_n hc dX9_share_108 rfl ?_
    refine j_aload_n hc dX9_share_109 rfl ?_
    refine j_getI hc dX9_share_110 (fgC_X9_16_3 _) ?_
    refine j_iadd hc dX9_share_113 ?_
    exact j_ireturn hc dX9_share_114 rfl rfl hf
  · refine j_iload_n hc dX9_share_99 rfl ?_
    refine j_aload_n hc dX9_share_100 rfl ?_
    refine j_getI hc dX9_share_101 (fgC_X9_16_3 _) ?_
    refine j_isub hc dX9_share_104 ?_
    refine j_goto (tgt := 114) hc dX9_share_105 rfl ?_
    exact j_ireturn hc dX9_share_114 rfl rfl hf

set_option maxRecDepth 100000 in
def fX9_share_war_b65 (n d : Nat) (s0 : Int32) (a1 : Int32) (a3 : Int32) (a4 : Int32) (I : am_I) (L : am_L) : Option (Int32 × am_I × am_L) :=
  am_lt s0 (fun v1 => if a4 = v1 then
    (some (a3, I, L))
    else
    (if a4 = 0 then
      (fX9_share_war_b86 n d (1 : Int32) a1 a3 I L)
      else
      (fX9_share_war_b86 n d (0 : Int32) a1 a3 I L)))

set_option maxRecDepth 100000 in
set_option maxHeartbeats 4000000 in
theorem tX9_share_war_b65 {x : am_X} {al : Bool} (n d : Nat) (hc : am_ok x cX9_share yX9_share 7 (some .int) (d + 1) 0 0) {r : Int32} {I' : am_I} {L' : am_L} (s0 : Int32) (a1 : Int32) (a3 : Int32) (a4 : Int32) (I : am_I) (L : am_L) (hf : fX9_share_war_b65 n d s0 a1 a3 a4 I L = some (r, I', L')) : am_J x (fun S => S = (some (.int r), (KC al), (RC al), I', L')) 65 [some (.ref 3), some (.int a1), none, some (.int a3), some (.int a4), none, none] [.int s0] (KC al) (RC al) I L 0 0 := by
  unfold fX9_share_war_b65 at hf
  refine j_istore hc dX9_share_65 (Nat.le_of_ble_eq_true rfl) hf (fun v1 hf => ?_)
  refine j_iload hc dX9_share_67 rfl ?_
  refine j_iload hc dX9_share_69 rfl ?_
  refine j_icmp_ne (tgt := 76) hc dX9_share_71 rfl hf (fun hf => ?_) (fun hf => ?_)
  · refine j_iload hc dX9_share_76 rfl ?_
    refine j_if_eq (tgt := 85) hc dX9_share_78 rfl hf (fun hf => ?_) (fun hf => ?_)
    · refine j_iconst (v := (1 : Int32)) hc dX9_share_85 ci_1 ?_
      exact j_sub (tX9_share_war_b86 n d hc _ _ _ _ _ hf) (And.intro rfl (And.intro rfl (And.intro rfl (trivial))))
    · refine j_iconst (v := (0 : Int32)) hc dX9_share_81 ci_0 ?_
      refine j_goto (tgt := 86) hc dX9_share_82 rfl ?_
      exact j_sub (tX9_share_war_b86 n d hc _ _ _ _ _ hf) (And.intro rfl (And.intro rfl (And.intro rfl (trivial))))
  · refine j_iload_n hc dX9_share_74 rfl ?_
    exact j_ireturn hc dX9_share_75 rfl rfl hf

set_option maxRecDepth 100000 in
def fX9_share_war_b41 (n d : Nat) (s0 : Int32) (a1 : Int32) (a2 : Int32) (a3 : Int32) (I : am_I) (L : am_L) : Option (Int32 × am_I × am_L) :=
  am_lt s0 (fun v1 => am_ck (1 : Int32) 2 (am_lt (I 13 ((1 : Int32)).toNatClampNeg) (fun v2 => am_ck (1 : Int32) 2 (am_lt (I 13 ((1 : Int32)).toNatClampNeg) (fun v3 => if (a2 &&& v2) = v3 then
    (fX9_share_war_b65 n d (1 : Int32) a1 a3 v1 I L)
    else
    (fX9_share_war_b65 n d (0 : Int32) a1 a3 v1 I L))))))

set_option maxRecDepth 100000 in
set_option maxHeartbeats 4000000 in
theorem tX9_share_war_b41 {x : am_X} {al : Bool} (n d : Nat) (hc : am_ok x cX9_share yX9_share 7 (some .int) (d + 1) 0 0) {r : Int32} {I' : am_I} {L' : am_L} (s0 : Int32) (a1 : Int32) (a2 : Int32) (a3 : Int32) (I : am_I) (L : am_L) (hf : fX9_share_war_b41 n d s0 a1 a2 a3 I L = some (r, I', L')) : am_J x (fun S => S = (some (.int r), (KC al), (RC al), I', L')) 41 [some (.ref 3), some (.int a1), some (.int a2), some (.int a3), none, none, none] [.int s0] (KC al) (RC al) I L 0 0 := by
  unfold fX9_share_war_b41 at hf
  refine j_istore hc dX9_share_41 (Nat.le_of_ble_eq_true rfl) hf (fun v1 hf => ?_)
  refine j_iload_n hc dX9_share_43 rfl ?_
  refine j_aload_n hc dX9_share_44 rfl ?_
  refine j_getR (u := 13) hc dX9_share_45 (fgC_X9_54_3 _) (rC_3_14 _) ?_
  refine j_iconst (v := (1 : Int32)) hc dX9_share_48 ci_1 ?_
  refine j_iaload (n := 2) hc dX9_share_49 (kC_13 _) hf (fun v2 hf => ?_)
  refine j_iand hc dX9_share_50 ?_
  refine j_aload_n hc dX9_share_51 rfl ?_
  refine j_getR (u := 13) hc dX9_share_52 (fgC_X9_54_3 _) (rC_3_14 _) ?_
  refine j_iconst (v := (1 : Int32)) hc dX9_share_55 ci_1 ?_
  refine j_iaload (n := 2) hc dX9_share_56 (kC_13 _) hf (fun v3 hf => ?_)
  refine j_icmp_ne (tgt := 64) hc dX9_share_57 rfl hf (fun hf => ?_) (fun hf => ?_)
  · refine j_iconst (v := (0 : Int32)) hc dX9_share_64 ci_0 ?_
    exact j_sub (tX9_share_war_b65 n d hc _ _ _ _ _ _ hf) (And.intro rfl (And.intro rfl (And.intro rfl (And.intro rfl (trivial)))))
  · refine j_iconst (v := (1 : Int32)) hc dX9_share_60 ci_1 ?_
    refine j_goto (tgt := 65) hc dX9_share_61 rfl ?_
    exact j_sub (tX9_share_war_b65 n d hc _ _ _ _ _ _ hf) (And.intro rfl (And.intro rfl (And.intro rfl (And.intro rfl (trivial)))))

set_option maxRecDepth 100000 in
def fX9_share_war_b18 (n d : Nat) (s0 : Int32) (a1 : Int32) (a2 : Int32) (I : am_I) (L : am_L) : Option (Int32 × am_I × am_L) :=
  am_lt s0 (fun v1 => am_ck (0 : Int32) 2 (am_lt (I 13 ((0 : Int32)).toNatClampNeg) (fun v2 => am_ck (0 : Int32) 2 (am_lt (I 13 ((0 : Int32)).toNatClampNeg) (fun v3 => if (a2 &&& v2) = v3 then
    (fX9_share_war_b41 n d (1 : Int32) a1 a2 v1 I L)
    else
    (fX9_share_war_b41 n d (0 : Int32) a1 a2 v1 I L))))))

set_option maxRecDepth 100000 in
set_option maxHeartbeats 4000000 in
theorem tX9_share_war_b18 {x : am_X} {al : Bool} (n d : Nat) (hc : am_ok x cX9_share yX9_share 7 (some .int) (d + 1) 0 0) {r : Int32} {I' : am_I} {L' : am_L} (s0 : Int32) (a1 : Int32) (a2 : Int32) (I : am_I) (L : am_L) (hf : fX9_share_war_b18 n d s0 a1 a2 I L = some (r, I', L')) : am_J x (fun S => S = (some (.int r), (KC al), (RC al), I', L')) 18 [some (.ref 3), some (.int a1), some (.int a2), none, none, none, none] [.int s0] (KC al) (RC al) I L 0 0 := by
  unfold fX9_share_war_b18 at hf
  refine j_istore_n hc dX9_share_18 (Nat.le_of_ble_eq_true rfl) hf (fun v1 hf => ?_)
  refine j_iload_n hc dX9_share_19 rfl ?_
  refine j_aload_n hc dX9_share_20 rfl ?_
  refine j_getR (u := 13) hc dX9_share_21 (fgC_X9_54_3 _) (rC_3_14 _) ?_
  refine j_iconst (v := (0 : Int32)) hc dX9_share_24 ci_0 ?_
  refine j_iaload (n := 2) hc dX9_share_25 (kC_13 _) hf (fun v2 hf => ?_)
  refine j_iand hc dX9_share_26 ?_
  refine j_aload_n hc dX9_share_27 rfl ?_
  refine j_getR (u := 13) hc dX9_share_28 (fgC_X9_54_3 _) (rC_3_14 _) ?_
  refine j_iconst (v := (0 : Int32)) hc dX9_share_31 ci_0 ?_
  refine j_iaload (n := 2) hc dX9_share_32 (kC_13 _) hf (fun v3 hf => ?_)
  refine j_icmp_ne (tgt := 40) hc dX9_share_33 rfl hf (fun hf => ?_) (fun hf => ?_)
  · refine j_iconst (v := (0 : Int32)) hc dX9_share_40 ci_0 ?_
    exact j_sub (tX9_share_war_b41 n d hc _ _ _ _ _ _ hf) (And.intro rfl (And.intro rfl (And.intro rfl (And.intro rfl (trivial)))))
  · refine j_iconst (v := (1 : Int32)) hc dX9_share_36 ci_1 ?_
    refine j_goto (tgt := 41) hc dX9_share_37 rfl ?_
    exact j_sub (tX9_share_war_b41 n d hc _ _ _ _ _ _ hf) (And.intro rfl (And.intro rfl (And.intro rfl (And.intro rfl (trivial)))))

set_option maxRecDepth 100000 in
def fX9_share_war (n d : Nat) (a1 : Int32) (a2 : Int32) (I : am_I) (L : am_L) : Option (Int32 × am_I × am_L) :=
  if ((a2 >>> (a1 &&& 31)) &&& (1 : Int32)) = 0 then
    (fX9_share_war_b18 n d (0 : Int32) a1 a2 I L)
    else
    (am_ck a1 8 (am_lt (I 8 (a1).toNatClampNeg) (fun v1 => fX9_share_war_b18 n d v1 a1 a2 I L)))

set_option maxRecDepth 100000 in
set_option maxHeartbeats 4000000 in
theorem tX9_share_war {x : am_X} {al : Bool} (n d : Nat) (hc : am_ok x cX9_share yX9_share 7 (some .int) (d + 1) 0 0) {r : Int32} {I' : am_I} {L' : am_L} (a1 : Int32) (a2 : Int32) (I : am_I) (L : am_L) (hf : fX9_share_war n d a1 a2 I L = some (r, I', L')) : am_J x (fun S => S = (some (.int r), (KC al), (RC al), I', L')) 0 [some (.ref 3), some (.int a1), some (.int a2), none, none, none, none] [] (KC al) (RC al) I L 0 0 := by
  unfold fX9_share_war at hf
  refine j_iload_n hc dX9_share_0 rfl ?_
  refine j_iload_n hc dX9_share_1 rfl ?_
  refine j_ishr hc dX9_share_2 ?_
  refine j_iconst (v := (1 : Int32)) hc dX9_share_3 ci_1 ?_
  refine j_iand hc dX9_share_4 ?_
  refine j_if_eq (tgt := 17) hc dX9_share_5 rfl hf (fun hf => ?_) (fun hf => ?_)
  · refine j_iconst (v := (0 : Int32)) hc dX9_share_17 ci_0 ?_
    exact j_sub (tX9_share_war_b18 n d hc _ _ _ _ _ hf) (And.intro rfl (And.intro rfl (And.intro rfl (trivial))))
  · refine j_aload_n hc dX9_share_8 rfl ?_
    refine j_getR (u := 8) hc dX9_share_9 (fgC_X9_39_3 _) (rC_3_9 _) ?_
    refine j_iload_n hc dX9_share_12 rfl ?_
    refine j_iaload (n := 8) hc dX9_share_13 (kC_8 _) hf (fun v1 hf => ?_)
    refine j_goto (tgt := 18) hc dX9_share_14 rfl ?_
    exact j_sub (tX9_share_war_b18 n d hc _ _ _ _ _ hf) (And.intro rfl (And.intro rfl (And.intro rfl (trivial))))

set_option maxRecDepth 100000 in
theorem qX9_share_war (l : Launch) {al : Bool} (n d : Nat) (a1 : Int32) (a2 : Int32) (I : am_I) (L : am_L) (r : Int32) (I' : am_I) (L' : am_L) (hf : fX9_share_war n d a1 a2 I L = some (r, I', L')) : am_C l yX9_share cX9_share 7 (some .int) (d + 1) [.ref 3, .int a1, .int a2] (KC al) (RC al) I L (some (.int r)) I' L' := by
  exact am_intro (plainFor_of_name plX9) (fun _ _ => trivial) (Nat.le_of_ble_eq_true rfl) (fun x hl hc => by subst hl; exact j_sub (tX9_share_war n d hc _ _ _ _ hf) (And.intro rfl (And.intro rfl (And.intro rfl (trivial)))))
set_option maxRecDepth 100000 in
def fX11_gets_b34 (n d : Nat) (I : am_I) (L : am_L) : Option (Int32 × am_I × am_L) :=
  some ((-1000000 : Int32), I, L)

set_option maxRecDepth 100000 in
set_option maxHeartbeats 4000000 in
theorem tX11_gets_b34 {x : am_X} {al : Bool} (n d : Nat) (hc : am_ok x cX11_gets yX11_gets 3 (some .int) (d + 3) 0 0) {r : Int32} {I' : am_I} {L' : am_L} (I : am_I) (L : am_L) (hf : fX11_gets_b34 n d I L = some (r, I', L')) : am_J x (fun S => S = (some (.int r), (KC al), (RC al), I', L')) 34 [none, none, none] [] (KC al) (RC al) I L 0 0 := by
  unfold fX11_gets_b34 at hf
  refine j_ldc (v := (-1000000 : Int32)) hc dX11_gets_34 kw_890 ?_
  exact j_ireturn hc dX11_gets_36 rfl rfl hf

set_option maxRecDepth 100000 in
def fX11_gets (n d : Nat) (a1 : Int32) (a2 : Int32) (I : am_I) (L : am_L) : Option (Int32 × am_I × am_L) :=
  am_b3 (fX9_hasMan_war n d a1 I L) (fun v1 I1 L1 => if v1 = 0 then
    (fX11_gets_b34 n d I1 L1)
    else
    (am_b3 (fX9_hasSet_war n d a2 I1 L1) (fun v2 I2 L2 => if v2 = 0 then
      (fX11_gets_b34 n d I2 L2)
      else
      (am_b3 (fX9_share_war n d a1 a2 I2 L2) (fun v3 I3 L3 => some (v3, I3, L3))))))

set_option maxRecDepth 100000 in
set_option maxHeartbeats 4000000 in
theorem tX11_gets {x : am_X} {al : Bool} (n d : Nat) (hc : am_ok x cX11_gets yX11_gets 3 (some .int) (d + 3) 0 0) {r : Int32} {I' : am_I} {L' : am_L} (a1 : Int32) (a2 : Int32) (I : am_I) (L : am_L) (hf : fX11_gets n d a1 a2 I L = some (r, I', L')) : am_J x (fun S => S = (some (.int r), (KC al), (RC al), I', L')) 0 [some (.ref 0), some (.int a1), some (.int a2)] [] (KC al) (RC al) I L 0 0 := by
  unfold fX11_gets at hf
  refine j_aload_n hc dX11_gets_0 rfl ?_
  refine j_getR (u := 3) hc dX11_gets_1 (fgC_X11_19_0 _) (rC_0_1 _) ?_
  refine j_iload_n hc dX11_gets_4 rfl ?_
  refine j_callVI (t := 3) (As := [.int a1]) hc dX11_gets_5 kw_978 mX9_hasMan (kC_3 _) clX9 rfl (by omega) (Nat.le_of_ble_eq_true rfl) (Nat.le_of_ble_eq_true rfl) ⟨Nat.le_refl _, Nat.le_refl _⟩ hf (fun v I' L' h => qX9_hasMan_war x.2.1 n d a1 I L v I' L' h) (fun v1 I1 L1 hf => ?_)
  refine j_if_eq (tgt := 34) hc dX11_gets_8 rfl hf (fun hf => ?_) (fun hf => ?_)
  · exact j_sub (tX11_gets_b34 n d hc _ _ hf) (trivial)
  · refine j_aload_n hc dX11_gets_11 rfl ?_
    refine j_getR (u := 3) hc dX11_gets_12 (fgC_X11_19_0 _) (rC_0_1 _) ?_
    refine j_iload_n hc dX11_gets_15 rfl ?_
    refine j_callVI (t := 3) (As := [.int a2]) hc dX11_gets_16 kw_1291 mX9_hasSet (kC_3 _) clX9 rfl (by omega) (Nat.le_of_ble_eq_true rfl) (Nat.le_of_ble_eq_true rfl) ⟨Nat.le_refl _, Nat.le_refl _⟩ hf (fun v I' L' h => qX9_hasSet_war x.2.1 n d a2 I1 L1 v I' L' h) (fun v2 I2 L2 hf => ?_)
    refine j_if_eq (tgt := 34) hc dX11_gets_19 rfl hf (fun hf => ?_) (fun hf => ?_)
    · exact j_sub (tX11_gets_b34 n d hc _ _ hf) (trivial)
    · refine j_aload_n hc dX11_gets_22 rfl ?_
      refine j_getR (u := 3) hc dX11_gets_23 (fgC_X11_19_0 _) (rC_0_1 _) ?_
      refine j_iload_n hc dX11_gets_26 rfl ?_
      refine j_iload_n hc dX11_gets_27 rfl ?_
      refine j_callVI (t := 3) (As := [.int a1, .int a2]) hc dX11_gets_28 kw_1296 mX9_share (kC_3 _) clX9 rfl (by omega) (Nat.le_of_ble_eq_true rfl) (Nat.le_of_ble_eq_true rfl) ⟨Nat.le_refl _, Nat.le_refl _⟩ hf (fun v I' L' h => qX9_share_war x.2.1 n d a1 a2 I2 L2 v I' L' h) (fun v3 I3 L3 hf => ?_)
      refine j_goto (tgt := 36) hc dX11_gets_31 rfl ?_
      exact j_ireturn hc dX11_gets_36 rfl rfl hf

set_option maxRecDepth 100000 in
theorem qX11_gets (l : Launch) {al : Bool} (n d : Nat) (a1 : Int32) (a2 : Int32) (I : am_I) (L : am_L) (r : Int32) (I' : am_I) (L' : am_L) (hf : fX11_gets n d a1 a2 I L = some (r, I', L')) : am_C l yX11_gets cX11_gets 3 (some .int) (d + 3) [.ref 0, .int a1, .int a2] (KC al) (RC al) I L (some (.int r)) I' L' := by
  exact am_intro (plainFor_of_name plX11) (fun _ _ => trivial) (Nat.le_of_ble_eq_true rfl) (fun x hl hc => by subst hl; exact j_sub (tX11_gets n d hc _ _ _ _ hf) (And.intro rfl (And.intro rfl (And.intro rfl (trivial)))))
set_option maxRecDepth 100000 in
def fX9_isAtRest_war_b2w (n d : Nat) (k2 : Int32 → Int32 → am_I → am_L → Option (Int32 × am_I × am_L)) (a1 : Int32) (a2 : Int32) (I : am_I) (L : am_L) : Option (Int32 × am_I × am_L) :=
  if (I 3 0) ≤ a2 then
    (some ((1 : Int32), I, L))
    else
    (am_b3 (fX9_share_war n d a2 (a1 ^^^ ((1 : Int32) <<< (a2 &&& 31))) I L) (fun v1 I1 L1 => am_b3 (fX9_share_war n d a2 a1 I1 L1) (fun v2 I2 L2 => if v1 ≤ v2 then
      (am_lt (a2 + (1 : Int32)) (fun v3 => k2 a1 v3 I2 L2))
      else
      (some ((0 : Int32), I2, L2)))))

set_option maxRecDepth 100000 in
set_option maxHeartbeats 4000000 in
theorem tX9_isAtRest_war_b2w {x : am_X} {al : Bool} (n d : Nat) (hc : am_ok x cX9_isAtRest yX9_isAtRest 3 (some .boolean) (d + 2) 0 0) {r : Int32} {I' : am_I} {L' : am_L} (k2 : Int32 → Int32 → am_I → am_L → Option (Int32 × am_I × am_L)) (hk2 : ∀ (a1 : Int32) (a2 : Int32) (I : am_I) (L : am_L), k2 a1 a2 I L = some (r, I', L') → am_J x (fun S => S = (some (.int r), (KC al), (RC al), I', L')) 2 [some (.ref 3), some (.int a1), some (.int a2)] [] (KC al) (RC al) I L 0 0) (a1 : Int32) (a2 : Int32) (I : am_I) (L : am_L) (hf : fX9_isAtRest_war_b2w n d k2 a1 a2 I L = some (r, I', L')) : am_J x (fun S => S = (some (.int r), (KC al), (RC al), I', L')) 2 [some (.ref 3), some (.int a1), some (.int a2)] [] (KC al) (RC al) I L 0 0 := by
  unfold fX9_isAtRest_war_b2w at hf
  refine j_iload_n hc dX9_isAtRest_2 rfl ?_
  refine j_aload_n hc dX9_isAtRest_3 rfl ?_
  refine j_getI hc dX9_isAtRest_4 (fgC_X9_7_3 _) ?_
  refine j_icmp_ge (tgt := 37) hc dX9_isAtRest_7 rfl hf (fun hf => ?_) (fun hf => ?_)
  · refine j_iconst (v := (1 : Int32)) hc dX9_isAtRest_37 ci_1 ?_
    exact j_zret hc dX9_isAtRest_38 rfl rfl (Or.inr rfl) hf
  · refine j_aload_n hc dX9_isAtRest_10 rfl ?_
    refine j_iload_n hc dX9_isAtRest_11 rfl ?_
    refine j_iload_n hc dX9_isAtRest_12 rfl ?_
    refine j_iconst (v := (1 : Int32)) hc dX9_isAtRest_13 ci_1 ?_
    refine j_iload_n hc dX9_isAtRest_14 rfl ?_
    refine j_ishl hc dX9_isAtRest_15 ?_
    refine j_ixor hc dX9_isAtRest_16 ?_
    refine j_callVI (t := 3) (As := [.int a2, .int (a1 ^^^ ((1 : Int32) <<< (a2 &&& 31)))]) hc dX9_isAtRest_17 kw_1308 mX9_share (kC_3 _) clX9 rfl (by omega) (Nat.le_of_ble_eq_true rfl) (Nat.le_of_ble_eq_true rfl) ⟨Nat.le_refl _, Nat.le_refl _⟩ hf (fun v I' L' h => qX9_share_war x.2.1 n d a2 (a1 ^^^ ((1 : Int32) <<< (a2 &&& 31))) I L v I' L' h) (fun v1 I1 L1 hf => ?_)
    refine j_aload_n hc dX9_isAtRest_20 rfl ?_
    refine j_iload_n hc dX9_isAtRest_21 rfl ?_
    refine j_iload_n hc dX9_isAtRest_22 rfl ?_
    refine j_callVI (t := 3) (As := [.int a2, .int a1]) hc dX9_isAtRest_23 kw_1308 mX9_share (kC_3 _) clX9 rfl (by omega) (Nat.le_of_ble_eq_true rfl) (Nat.le_of_ble_eq_true rfl) ⟨Nat.le_refl _, Nat.le_refl _⟩ hf (fun v I' L' h => qX9_share_war x.2.1 n d a2 a1 I1 L1 v I' L' h) (fun v2 I2 L2 hf => ?_)
    refine j_icmp_le (tgt := 31) hc dX9_isAtRest_26 rfl hf (fun hf => ?_) (fun hf => ?_)
    · refine j_iinc (w := (1 : Int32)) hc dX9_isAtRest_31 rfl ci_1 (Nat.le_of_ble_eq_true rfl) hf (fun v3 hf => ?_)
      refine j_goto (tgt := 2) hc dX9_isAtRest_34 rfl ?_
      exact j_sub (hk2 _ _ _ _ hf) (And.intro rfl (And.intro rfl (And.intro rfl (trivial))))
    · refine j_iconst (v := (0 : Int32)) hc dX9_isAtRest_29 ci_0 ?_
      exact j_zret hc dX9_isAtRest_30 rfl rfl (Or.inl rfl) hf

def fX9_isAtRest_war_b2 (n d : Nat) : Nat → Int32 → Int32 → am_I → am_L → Option (Int32 × am_I × am_L)
  | 0 => fun _ _ _ _ => none
  | m + 1 => fX9_isAtRest_war_b2w n d  (fX9_isAtRest_war_b2 n d m)

set_option maxRecDepth 100000 in
theorem tX9_isAtRest_war_b2 {x : am_X} {al : Bool} (n d : Nat) (hc : am_ok x cX9_isAtRest yX9_isAtRest 3 (some .boolean) (d + 2) 0 0) {r : Int32} {I' : am_I} {L' : am_L} (m : Nat) : ∀ (a1 : Int32) (a2 : Int32) (I : am_I) (L : am_L) (hf : fX9_isAtRest_war_b2 n d m a1 a2 I L = some (r, I', L')), am_J x (fun S => S = (some (.int r), (KC al), (RC al), I', L')) 2 [some (.ref 3), some (.int a1), some (.int a2)] [] (KC al) (RC al) I L 0 0 := by
  induction m with
  | zero => intro a1 a2 I L hf; exact (Option.some_ne_none _ hf.symm).elim
  | succ m ih => intro a1 a2 I L hf; exact tX9_isAtRest_war_b2w n d hc (fX9_isAtRest_war_b2 n d m) ih a1 a2 I L hf

set_option maxRecDepth 100000 in
def fX9_isAtRest_war (n d : Nat) (a1 : Int32) (I : am_I) (L : am_L) : Option (Int32 × am_I × am_L) :=
  am_lt (0 : Int32) (fun v1 => fX9_isAtRest_war_b2 n d n a1 v1 I L)

set_option maxRecDepth 100000 in
set_option maxHeartbeats 4000000 in
theorem tX9_isAtRest_war {x : am_X} {al : Bool} (n d : Nat) (hc : am_ok x cX9_isAtRest yX9_isAtRest 3 (some .boolean) (d + 2) 0 0) {r : Int32} {I' : am_I} {L' : am_L} (a1 : Int32) (I : am_I) (L : am_L) (hf : fX9_isAtRest_war n d a1 I L = some (r, I', L')) : am_J x (fun S => S = (some (.int r), (KC al), (RC al), I', L')) 0 [some (.ref 3), some (.int a1), none] [] (KC al) (RC al) I L 0 0 := by
  unfold fX9_isAtRest_war at hf
  refine j_iconst (v := (0 : Int32)) hc dX9_isAtRest_0 ci_0 ?_
  refine j_istore_n hc dX9_isAtRest_1 (Nat.le_of_ble_eq_true rfl) hf (fun v1 hf => ?_)
  exact j_sub (tX9_isAtRest_war_b2 n d hc n _ _ _ _ hf) (And.intro rfl (And.intro rfl (And.intro rfl (trivial))))

set_option maxRecDepth 100000 in
theorem qX9_isAtRest_war (l : Launch) {al : Bool} (n d : Nat) (a1 : Int32) (I : am_I) (L : am_L) (r : Int32) (I' : am_I) (L' : am_L) (hf : fX9_isAtRest_war n d a1 I L = some (r, I', L')) : am_C l yX9_isAtRest cX9_isAtRest 3 (some .boolean) (d + 2) [.ref 3, .int a1] (KC al) (RC al) I L (some (.int r)) I' L' := by
  exact am_intro (plainFor_of_name plX9) (fun _ _ => trivial) (Nat.le_of_ble_eq_true rfl) (fun x hl hc => by subst hl; exact j_sub (tX9_isAtRest_war n d hc _ _ _ hf) (And.intro rfl (And.intro rfl (trivial))))
